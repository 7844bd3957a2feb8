import java.math.BigInteger;
import java.util.Arrays;

/** Promises 22 to 32 and section 5 of the terms, at their edges: a test of each sentence that names one. */
public final class SheetsEdgesTest {
    private static final Checks CHECKS = new Checks();
    private static final Edges EDGES = new Edges(CHECKS, World::made);

    public static void main(String[] args) {
        sheet();
        sheetIsNew();
        emptyAndFullRows();
        lose();
        put();
        cutToTheLane();
        cell();
        cellsAtTheEnds();
        copy();
        copyOfNullAndCast();
        copyOfIndex();
        whatComesFirstOfCopy();
        copyAsTheyWere();
        sheetsAreApart();
        tellAndPat();
        bodies();
        traceWraps();
        as();
        faultBehindEachCall();
        faultIsKept();
        many();
        theLastCall();
        CHECKS.end();
    }

    private static void due(String call, long got, long want) {
        CHECKS.due(call, got, want);
    }

    /** Promise 22: "UNKNOWN; OUTSIDE: lane, n above 60; SIZE". */
    private static void sheet() {
        EDGES.withinOfFaults("sheet: k", 0, 3, Edges.UNKNOWN, (x, v) -> x.sheet(v, 0, 5));
        EDGES.withinOfFaults("sheet: lane", 0, 2, Edges.OUTSIDE, (x, v) -> x.sheet(0, v, 5));
        EDGES.refuses("n 61", Edges.OUTSIDE, x -> x.sheet(0, 0, 61));
        EDGES.refuses("n 61, of one that has nothing", Edges.OUTSIDE, x -> x.sheet(3, 2, 61));
        EDGES.refuses("the most n", Edges.OUTSIDE, x -> x.sheet(0, 0, Integer.MAX_VALUE));
        EDGES.faults("n -1", Edges.SIZE, x -> x.sheet(0, 0, -1));
        EDGES.faults("n -1, of one that has nothing", Edges.SIZE, x -> x.sheet(3, 2, -1));
        EDGES.faults("the least n", Edges.SIZE, x -> x.sheet(0, 0, Integer.MIN_VALUE));
        EDGES.answers("n 0", 1, x -> x.sheet(0, 0, 0));
        EDGES.answers("n 60", 1, x -> x.sheet(0, 0, 60));
        EDGES.refuses("UNKNOWN, OUTSIDE lane", Edges.UNKNOWN, x -> x.sheet(4, 3, 5));
        EDGES.refuses("UNKNOWN, OUTSIDE n", Edges.UNKNOWN, x -> x.sheet(-1, 0, 61));
        EDGES.refuses("UNKNOWN, SIZE", Edges.UNKNOWN, x -> x.sheet(4, 0, -1));
        EDGES.refuses("OUTSIDE, SIZE", Edges.OUTSIDE, x -> x.sheet(0, 3, -1));
        EDGES.refuses("OUTSIDE, SIZE", Edges.OUTSIDE, x -> x.sheet(0, -1, -1));
    }

    /** "A SHEET gets a new row", "(0 at first)", whatever it had. */
    private static void sheetIsNew() {
        for (int lane = 0; lane < 3; lane++) {
            PantomimeHorses x = World.made();
            due("a new row of lane " + lane, x.sheet(0, lane, 60), 1);
            due("fault() is past", x.fault(), 0);
            for (int c = 0; c < 60; c++) {
                due("0 at first", x.cell(0, c, lane), 0);
            }
            due("no PEOPLE are changed", x.many(0), 6);
            x.put(0, 59, 7);
            x.sheet(0, lane, 3);
            due("a shorter one", x.cell(0, 2, lane), 0);
            due("and no more", x.cell(0, 3, lane), Edges.LOST);
            x.sheet(0, lane, 60);
            due("a longer one again", x.cell(0, 59, lane), 0);
            x.put(0, 0, 7);
            x.lose(0);
            x.sheet(0, lane, 1);
            due("behind nothing", x.cell(0, 0, lane), 0);
        }
    }

    /** "a row of 0 .. 60 numbers": the cells there are. */
    private static void emptyAndFullRows() {
        for (int lane = 0; lane < 3; lane++) {
            for (int n : new int[] {0, 1, 59, 60}) {
                PantomimeHorses x = new PantomimeHorses();
                x.sheet(1, lane, n);
                due("the last of " + n, x.put(1, n - 1, 5), n == 0 ? Edges.INDEX : 1);
                due("behind the last of " + n, x.put(1, n, 5), Edges.INDEX);
                due("the last of " + n, x.cell(1, n - 1, lane), n == 0 ? Edges.LOST : 5);
                due("behind the last of " + n, x.cell(1, n, lane), Edges.LOST);
                due("INDEX", x.fault(), 3);
                due("it is not nothing", x.lose(1), 1);
            }
        }
    }

    /** Promise 23: "1; 0: it had nothing. UNKNOWN". */
    private static void lose() {
        EDGES.within("lose: k", 0, 3, Edges.UNKNOWN, (x, v) -> x.lose(v));
        EDGES.keeps("it had nothing", 0, x -> x.lose(3));
        for (int k = 0; k < 3; k++) {
            PantomimeHorses x = World.made();
            due("it had a row", x.lose(k), 1);
            due("fault() is kept", x.fault(), World.FAULT);
            due("it has nothing", x.put(k, 0, 0), Edges.NULL);
            due("again", x.lose(k), 0);
            due("the DUCHY stays", x.many(0), 6);
        }
    }

    /** Promise 24: "UNKNOWN; NULL; INDEX". */
    private static void put() {
        EDGES.withinOfFaults("put: k", 0, 3, Edges.UNKNOWN, (x, v) -> x.put(v, 0, 1));
        EDGES.faults("NULL", Edges.NULL, x -> x.put(3, 0, 1));
        EDGES.faults("INDEX: -1", Edges.INDEX, x -> x.put(2, -1, 1));
        EDGES.faults("INDEX: behind the last", Edges.INDEX, x -> x.put(2, 4, 1));
        EDGES.faults("INDEX: the most", Edges.INDEX, x -> x.put(2, Integer.MAX_VALUE, 1));
        EDGES.faults("INDEX: the least", Edges.INDEX, x -> x.put(2, Integer.MIN_VALUE, 1));
        EDGES.answers("the first", 1, x -> x.put(2, 0, 1));
        EDGES.answers("the last", 1, x -> x.put(2, 3, 1));
        EDGES.refuses("UNKNOWN, INDEX", Edges.UNKNOWN, x -> x.put(4, -1, 1));
        EDGES.faults("NULL, INDEX", Edges.NULL, x -> x.put(3, -1, 1));
        EDGES.leaves("what it was", 1, 0, x -> x.put(2, 0, 70000));
    }

    /** "what comes to a cell of it is cut to its LANE": about each end of each lane. */
    private static void cutToTheLane() {
        int[] values = {0, -1, 1, Byte.MAX_VALUE, Byte.MAX_VALUE + 1, Byte.MIN_VALUE, Byte.MIN_VALUE - 1, 255, 256, 257,
            -256, -255, Short.MAX_VALUE, Short.MAX_VALUE + 1, Short.MIN_VALUE, Short.MIN_VALUE - 1, 65535, 65536, 65537,
            -65536, Integer.MAX_VALUE, Integer.MIN_VALUE};
        for (int v : values) {
            for (int lane = 0; lane < 3; lane++) {
                PantomimeHorses x = new PantomimeHorses();
                x.sheet(0, lane, 1);
                due("put " + v, x.put(0, 0, v), 1);
                long room = 1L << (8 << lane);
                long cut = Math.floorMod(v + room / 2, room) - room / 2;
                due(v + " in lane " + lane, x.cell(0, 0, lane), cut);
            }
        }
    }

    /** Promise 25: "LOST: UNKNOWN, OUTSIDE: lane; FAULTS CAST (nothing is no CAST), NULL, INDEX". */
    private static void cell() {
        for (int k : new int[] {-1, 4, Integer.MIN_VALUE, Integer.MAX_VALUE}) {
            EDGES.leaves("sheet " + k, Edges.LOST, 0, x -> x.cell(k, 0, 0));
        }
        for (int lane : new int[] {-1, 3, Integer.MIN_VALUE, Integer.MAX_VALUE}) {
            EDGES.leaves("lane " + lane, Edges.LOST, 0, x -> x.cell(0, 0, lane));
        }
        for (int s = 0; s < 4; s++) {
            int k = s;
            for (int l = 0; l < 3; l++) {
                int lane = l;
                int fault = k == 3 ? 1 : k == lane ? 0 : 2;
                long first = new long[] {'d', 4, 70000}[lane];
                EDGES.leaves("sheet " + k + " as of lane " + lane, fault == 0 ? first : Edges.LOST, fault,
                    x -> x.cell(k, 0, lane));
                EDGES.leaves("sheet " + k + " as of lane " + lane + ", INDEX", Edges.LOST, fault == 0 ? 3 : fault,
                    x -> x.cell(k, -1, lane));
            }
        }
        EDGES.leaves("UNKNOWN, OUTSIDE", Edges.LOST, 0, x -> x.cell(4, 0, 3));
        EDGES.leaves("UNKNOWN, INDEX", Edges.LOST, 0, x -> x.cell(-1, -1, 0));
        EDGES.leaves("OUTSIDE, NULL", Edges.LOST, 0, x -> x.cell(3, 0, 3));
        EDGES.leaves("OUTSIDE, INDEX", Edges.LOST, 0, x -> x.cell(0, 26, -1));
        Edges lost = new Edges(CHECKS, World::withALostSheet);
        for (int l = 0; l < 3; l++) {
            int lane = l;
            lost.leaves("nothing any more as of lane " + lane, Edges.LOST, 1, x -> x.cell(2, 0, lane));
        }
    }

    /** "INDEX": cells are 0 .. how many there are less 1. */
    private static void cellsAtTheEnds() {
        EDGES.leaves("the last", '3', 0, x -> x.cell(0, World.CODES - 1, 0));
        EDGES.leaves("behind the last", Edges.LOST, 3, x -> x.cell(0, World.CODES, 0));
        EDGES.leaves("-1", Edges.LOST, 3, x -> x.cell(0, -1, 0));
        EDGES.leaves("the most", Edges.LOST, 3, x -> x.cell(0, Integer.MAX_VALUE, 0));
        EDGES.leaves("the least", Edges.LOST, 3, x -> x.cell(0, Integer.MIN_VALUE, 0));
    }

    private static PantomimeHorses withTwoOfInts() {
        PantomimeHorses x = World.made();
        Checks.fill(x, 3, 2, 1, 2, 3);
        x.sheet(3, 0, -1);
        return x;
    }

    /** Promise 26: "UNKNOWN", of either; "n cells .. go to another one (perhaps the same)". */
    private static void copy() {
        Edges ints = new Edges(CHECKS, SheetsEdgesTest::withTwoOfInts);
        ints.withinOfFaults("copy: k", 0, 3, Edges.UNKNOWN, (x, v) -> x.copy(v, 0, 2, 0, 1));
        ints.withinOfFaults("copy: other", 0, 3, Edges.UNKNOWN, (x, v) -> x.copy(2, 0, v, 0, 1));
        ints.refuses("copy: both", Edges.UNKNOWN, x -> x.copy(4, 0, -1, 0, 1));
        ints.leaves("none", 0, 0, x -> x.copy(2, 0, 3, 0, 0));
        ints.leaves("to where they are", 4, 0, x -> x.copy(2, 0, 2, 0, 4));
        ints.answers("all of it", 3, x -> x.copy(3, 0, 2, 0, 3));
        PantomimeHorses x = withTwoOfInts();
        x.copy(2, 2, 3, 1, 2);
        due("fault() is past", x.fault(), 0);
        long[] wants = {1, 0, 10};
        for (int c = 0; c < 3; c++) {
            due("to there", x.cell(3, c, 2), wants[c]);
        }
        due("what they were stays", x.cell(2, 3, 2), 10);
    }

    /** "NULL (the first, the other), CAST (unlike LANES)", though no cell is taken. */
    private static void copyOfNullAndCast() {
        EDGES.faults("the first has nothing", Edges.NULL, x -> x.copy(3, 0, 0, 0, 0));
        EDGES.faults("the other has nothing", Edges.NULL, x -> x.copy(0, 0, 3, 0, 0));
        EDGES.faults("both have nothing", Edges.NULL, x -> x.copy(3, 0, 3, 0, 0));
        for (int a = 0; a < 3; a++) {
            for (int b = 0; b < 3; b++) {
                int k = a;
                int other = b;
                if (k != other) {
                    EDGES.faults("lane " + k + " to " + other, Edges.CAST, x -> x.copy(k, 0, other, 0, 1));
                    EDGES.faults("none, lane " + k + " to " + other, Edges.CAST, x -> x.copy(k, 0, other, 0, 0));
                }
            }
        }
        // Of the lane that the row had which has been lost, and that of another one there now.
        Edges lost = new Edges(CHECKS, World::withALostSheet);
        lost.faults("the other had ints", Edges.NULL, x -> x.copy(0, 0, 2, 0, 0));
        lost.faults("the first had ints", Edges.NULL, x -> x.copy(2, 0, 2, 0, 0));
    }

    /** "INDEX: i, j, n below 0 or beyond": of four cells to three. */
    private static void copyOfIndex() {
        Edges ints = new Edges(CHECKS, SheetsEdgesTest::withTwoOfInts);
        int[][] bad = {{-1, 0, 1}, {0, -1, 1}, {0, 0, -1}, {4, 0, 1}, {0, 3, 1}, {5, 0, 0}, {0, 4, 0}, {-1, 0, 0},
            {0, -1, 0}, {2, 0, 3}, {0, 1, 3}, {0, 0, 4}, {1, 0, Integer.MAX_VALUE}, {0, 1, Integer.MAX_VALUE},
            {Integer.MAX_VALUE, 0, 1}, {0, Integer.MAX_VALUE, 1}, {Integer.MAX_VALUE, 0, Integer.MAX_VALUE},
            {Integer.MIN_VALUE, 0, 1}, {0, Integer.MIN_VALUE, 1}, {0, 0, Integer.MIN_VALUE}, {4, 0, Integer.MIN_VALUE}};
        for (int[] b : bad) {
            ints.faults("from " + b[0] + " to " + b[1] + ", " + b[2], Edges.INDEX, x -> x.copy(2, b[0], 3, b[1], b[2]));
        }
        int[][] good = {{0, 0, 3}, {1, 0, 3}, {3, 2, 1}, {3, 0, 1}, {0, 2, 1}, {4, 0, 0}, {0, 3, 0}, {4, 3, 0}, {2, 1, 2}};
        for (int[] g : good) {
            ints.answers("from " + g[0] + " to " + g[1] + ", " + g[2], g[2], x -> x.copy(2, g[0], 3, g[1], g[2]));
        }
        ints.faults("of the same beyond", Edges.INDEX, x -> x.copy(2, 0, 2, 1, 4));
        PantomimeHorses x = new PantomimeHorses();
        x.sheet(0, 0, 0);
        due("none of none", x.copy(0, 0, 0, 0, 0), 0);
        due("one of none", x.copy(0, 0, 0, 0, 1), Edges.INDEX);
        due("none of none, from 1 on", x.copy(0, 1, 0, 0, 0), Edges.INDEX);
    }

    /** What comes first where two are due: UNKNOWN, NULL, CAST, INDEX. */
    private static void whatComesFirstOfCopy() {
        EDGES.refuses("UNKNOWN, NULL", Edges.UNKNOWN, x -> x.copy(3, 0, 4, 0, 0));
        EDGES.refuses("UNKNOWN, NULL", Edges.UNKNOWN, x -> x.copy(-1, 0, 3, 0, 0));
        EDGES.refuses("UNKNOWN, INDEX", Edges.UNKNOWN, x -> x.copy(0, 0, 4, 0, -1));
        EDGES.faults("NULL, INDEX", Edges.NULL, x -> x.copy(3, -1, 0, 0, 0));
        EDGES.faults("NULL of the other, INDEX", Edges.NULL, x -> x.copy(0, 0, 3, 0, -1));
        EDGES.faults("CAST, INDEX i", Edges.CAST, x -> x.copy(0, -1, 1, 0, 0));
        EDGES.faults("CAST, INDEX j", Edges.CAST, x -> x.copy(1, 0, 2, 5, 0));
        EDGES.faults("CAST, INDEX n", Edges.CAST, x -> x.copy(2, 0, 0, 0, -1));
    }

    /** "perhaps the same .. as they were": by each way and each number of cells, of the whole row. */
    private static void copyAsTheyWere() {
        for (int i = 0; i <= 4; i++) {
            for (int j = 0; j <= 4; j++) {
                for (int n = 0; n <= 4 - Math.max(i, j); n++) {
                    PantomimeHorses x = new PantomimeHorses();
                    Checks.fill(x, 0, 1, 10, 11, 12, 13);
                    due("copy", x.copy(0, i, 0, j, n), n);
                    for (int c = 0; c < 4; c++) {
                        boolean copied = c >= j && c < j + n;
                        due("from " + i + " to " + j + ", " + n, x.cell(0, c, 1), copied ? 10 + c - j + i : 10 + c);
                    }
                }
            }
        }
        for (int lane = 0; lane < 3; lane++) {
            PantomimeHorses x = new PantomimeHorses();
            x.sheet(0, lane, 60);
            x.put(0, 59, -1);
            x.sheet(1, lane, 60);
            due("60 cells", x.copy(0, 0, 1, 0, 60), 60);
            due("the last of them", x.cell(1, 59, lane), -1);
        }
    }

    /** "SHEETS 0 .. 3": each has its own row. */
    private static void sheetsAreApart() {
        PantomimeHorses x = new PantomimeHorses();
        for (int k = 0; k < 4; k++) {
            Checks.fill(x, k, k % 3, k + 1);
        }
        for (int k = 0; k < 4; k++) {
            due("its own", x.cell(k, 0, k % 3), k + 1);
        }
        x.copy(3, 0, 0, 0, 1);
        x.put(3, 0, 9);
        due("a copy is apart", x.cell(0, 0, 0), 4);
        x.lose(3);
        due("the others stay", x.cell(2, 0, 2), 3);
    }

    /** Promises 27 and 28: "UNKNOWN": no body begins then. */
    private static void tellAndPat() {
        EDGES.within("tell: p", 0, 5, Edges.UNKNOWN, (x, v) -> x.tell(v));
        EDGES.within("pat: p", 0, 5, Edges.UNKNOWN, (x, v) -> x.pat(v));
        PantomimeHorses x = World.made();
        x.tell(2);
        x.pat(2);
        due("fault() is kept", x.fault(), World.FAULT);
    }

    private static int traced(int... bodies) {
        BigInteger trace = BigInteger.ZERO;
        for (int body : bodies) {
            trace = trace.multiply(BigInteger.valueOf(31)).add(BigInteger.valueOf(body));
        }
        return trace.intValue();
    }

    /** "FORE (1): STEP. HIND (2) .. OLD (3) .. (HIND's left out). PATTED .. (4): WILL; OLD ones .. (5): 60." */
    private static void bodies() {
        for (int step = 0; step <= 9; step += 9) {
            String person = step + "" + step / 3;
            PantomimeHorses fore = Checks.of("d1;f" + person + ";f00");
            due("a FORE tells", fore.tell(0), step);
            due("by", fore.trace(), traced(1));
            due("a FORE is PATTED", fore.pat(0), step / 3);
            due("by", fore.trace(), traced(1, 4));
            PantomimeHorses hind = Checks.of("d1;h" + person + ";f00");
            due("a HIND tells", hind.tell(0), step + 100);
            due("by", hind.trace(), traced(2, 1));
            due("a HIND is PATTED", hind.pat(0), step / 3);
            due("by", hind.trace(), traced(2, 1, 4));
            PantomimeHorses old = Checks.of("d1;o" + person + ";f00");
            due("an OLD one tells", old.tell(0), 2 * step + 100);
            due("by", old.trace(), traced(3, 2, 1, 1));
            due("an OLD one is PATTED", old.pat(0), 60);
            due("by", old.trace(), traced(3, 2, 1, 1, 5));
        }
    }

    /** "an int that wraps, 0 at first, becomes 31 times it and the number". */
    private static void traceWraps() {
        PantomimeHorses x = Checks.of(World.TEXT);
        due("0 at first", x.trace(), 0);
        int[] bodies = new int[0];
        int below = 0;
        for (int call = 1; call <= 100; call++) {
            bodies = Arrays.copyOf(bodies, call);
            bodies[call - 1] = call % 2 == 0 ? 5 : 4;
            x.pat(call % 2 == 0 ? 2 : 1);
            due("behind " + call + " bodies", x.trace(), traced(bodies));
            below += x.trace() < 0 ? 1 : 0;
        }
        due("it wraps", below > 0 ? 1 : 0, 1);
    }

    /** Promise 29: "UNKNOWN; OUTSIDE; CAST: he is none (each is a FORE, too; an OLD one is a HIND)". */
    private static void as() {
        EDGES.withinOfFaults("as: p", 0, 5, Edges.UNKNOWN, (x, v) -> x.as(v, 0));
        EDGES.withinOfFaults("as: kind", 0, 2, Edges.OUTSIDE, (x, v) -> x.as(2, v));
        for (int person = 0; person < 6; person++) {
            int p = person;
            for (int k = 0; k < 3; k++) {
                int kind = k;
                boolean is = p % 3 >= kind;
                EDGES.leaves("as(" + p + ", " + kind + ")", is ? 1 : Edges.CAST, is ? 0 : 2, x -> x.as(p, kind));
            }
        }
        EDGES.refuses("UNKNOWN, OUTSIDE", Edges.UNKNOWN, x -> x.as(6, 3));
        EDGES.refuses("UNKNOWN, CAST", Edges.UNKNOWN, x -> x.as(6, 2));
        EDGES.refuses("OUTSIDE, CAST", Edges.OUTSIDE, x -> x.as(0, 3));
    }

    /** Promise 31: "The FAULT of the latest call that names one: 0: it came to none, or was refused". */
    private static void faultBehindEachCall() {
        Edges.Call[] well = {x -> x.duchy(0, 0, 0, World.CODES), x -> x.duchy(0, 0, 0, 3), x -> x.day(1, 1, 0, 4, 0),
            x -> x.sheet(0, 0, 1), x -> x.put(0, 0, 1), x -> x.cell(0, 0, 0), x -> x.copy(0, 0, 0, 0, 1), x -> x.as(0, 0)};
        Edges.Call[] refused = {x -> x.duchy(4, 0, 0, 0), x -> x.duchy(0, 3, 0, 0), x -> x.day(4, 0, 0, 0, 0),
            x -> x.day(0, 3, 0, 0, 0), x -> x.day(2, 2, 0, 1, 0), x -> x.day(1, 1, 1, 1, 0), x -> x.sheet(4, 0, 0),
            x -> x.sheet(0, 0, 61), x -> x.put(4, 0, 0), x -> x.cell(4, 0, 0), x -> x.cell(0, 0, 3),
            x -> x.copy(0, 0, 4, 0, 0), x -> x.as(6, 0), x -> x.as(0, 3)};
        for (Edges.Call[] calls : new Edges.Call[][] {well, refused}) {
            for (Edges.Call call : calls) {
                PantomimeHorses x = World.made();
                due("a FAULT ahead", x.fault(), World.FAULT);
                call.of(x);
                due("none behind", x.fault(), 0);
                due("it stays so", x.fault(), 0);
            }
        }
        PantomimeHorses x = World.made();
        int[] faults = {1, 2, 3, 4, 2, 1};
        for (int fault : faults) {
            x.cell(fault == 1 ? 3 : 0, fault == 3 ? -1 : 0, fault == 2 ? 1 : 0);
            if (fault == 4) {
                x.sheet(0, 0, -1);
            }
            due("the latest", x.fault(), fault);
        }
    }

    /** "of the latest call that names one": no other call changes it, whether it is refused or not. */
    private static void faultIsKept() {
        Edges.Call[] calls = {x -> x.ofPerson(0, 0), x -> x.where(0, 0), x -> x.train(0, 1), x -> x.bid(0, 1),
            x -> x.jar(0, 1), x -> x.join(4, 5), x -> x.join(0, 4), x -> x.part(0), x -> x.part(4), x -> x.hours(1),
            x -> x.hours(0), x -> x.match(-1), x -> x.match(9), x -> x.rather(), x -> x.meet(0, 3), x -> x.meet(4, 0),
            x -> x.leads(0, 1, 0, 0, 0), x -> x.leads(4, 1, 0, 0, 0), x -> x.reading(0, 1, 0, 0), x -> x.back(1),
            x -> x.back(3), x -> x.steps(0), x -> x.wills(0), x -> x.kinds(0), x -> x.odds(0, 1, 0, 0), x -> x.lose(0),
            x -> x.lose(4), x -> x.tell(0), x -> x.pat(0), x -> x.trace(), x -> x.fault(), x -> x.many(0), x -> x.many(9)};
        for (int c = 0; c < calls.length; c++) {
            PantomimeHorses x = World.made();
            calls[c].of(x);
            due("behind call " + c, x.fault(), World.FAULT);
        }
    }

    /** Promise 32: what 0 .. 4, "(0 all without a DUCHY). OUTSIDE". */
    private static void many() {
        EDGES.within("many: what", 0, 4, Edges.OUTSIDE, (x, v) -> x.many(v));
        Edges none = new Edges(CHECKS, World::withoutDuchy);
        none.within("many without a DUCHY: what", 0, 4, Edges.OUTSIDE, (x, v) -> x.many(v));
        int[] wants = {6, 3, 2, 2, 2};
        for (int w = 0; w < 5; w++) {
            int what = w;
            EDGES.keeps("many " + what, wants[what], x -> x.many(what));
            none.keeps("many " + what + " without a DUCHY", 0, x -> x.many(what));
        }
    }

    /** "at most 512 calls after it has been made": the 512th answers as the first does. */
    private static void theLastCall() {
        PantomimeHorses x = new PantomimeHorses();
        x.sheet(0, 0, 60);
        for (int call = 2; call < 511; call++) {
            due("put", x.put(0, call % 60, call), 1);
        }
        due("call 511", x.put(0, 60, 1), Edges.INDEX);
        due("call 512", x.fault(), 3);
    }
}
