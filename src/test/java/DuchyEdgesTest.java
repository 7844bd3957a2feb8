import java.util.Arrays;
import java.util.List;

/** Promises 1 to 7 and section 1 of the terms, at their edges: a test of each sentence that names one. */
public final class DuchyEdgesTest {
    private static final Checks CHECKS = new Checks();
    private static final Edges EDGES = new Edges(CHECKS, World::made);
    private static final String EIGHT = "d9;f00;f11;h22;h33;o40;o51;f62;h73";

    public static void main(String[] args) {
        noDuchyAtFirst();
        noSheetsAtFirst();
        eachCodeAtEachPlace();
        codesOfWiderLanes();
        codesCutToTheirLane();
        textsThatEndTooSoon();
        aNinthPerson();
        theFirstOfTwoFaults();
        textsThatAreNotTaken();
        textsThatAreTaken();
        peopleFewerAndMore();
        sheetOfDuchy();
        laneOfDuchy();
        sizeOfDuchy();
        indexOfDuchy();
        castAndNullOfDuchy();
        whatComesFirstOfDuchy();
        person();
        where();
        train();
        bid();
        strides();
        jars();
        personsOfTwoAndOfEight();
        CHECKS.end();
    }

    private static void due(String call, long got, long want) {
        CHECKS.due(call, got, want);
    }

    private static int taken(int lane, int... codes) {
        PantomimeHorses x = new PantomimeHorses();
        Checks.fill(x, 0, lane, codes);
        int answer = x.duchy(0, lane, 0, codes.length);
        due("fault() behind a text", x.fault(), 0);
        due("people behind a text", x.many(0), Math.max(answer, 0));
        return answer;
    }

    private static int taken(String text) {
        return taken(0, text.chars().toArray());
    }

    /** "No DUCHY (no PEOPLE)": what each call that needs one answers then. */
    private static void noDuchyAtFirst() {
        Edges none = new Edges(CHECKS, PantomimeHorses::new);
        for (int what = 0; what < 5; what++) {
            int w = what;
            none.keeps("new: many " + w, 0, x -> x.many(w));
        }
        none.keeps("new: ofPerson", Edges.UNKNOWN, x -> x.ofPerson(0, 0));
        none.keeps("new: where", Edges.LOST, x -> x.where(0, 0));
        none.keeps("new: train", Edges.UNKNOWN, x -> x.train(0, 0));
        none.keeps("new: bid", Edges.UNKNOWN, x -> x.bid(0, 0));
        none.keeps("new: jar", Edges.UNKNOWN, x -> x.jar(0, 1));
        none.keeps("new: join", Edges.UNKNOWN, x -> x.join(0, 1));
        none.keeps("new: part", Edges.UNKNOWN, x -> x.part(0));
        none.keeps("new: hours", Edges.STATE, x -> x.hours(1));
        none.keeps("new: match", Edges.STATE, x -> x.match(-1));
        none.keeps("new: rather", Edges.STATE, x -> x.rather());
        none.keeps("new: meet", Edges.UNKNOWN, x -> x.meet(0, 0));
        none.keeps("new: leads", Edges.UNKNOWN, x -> x.leads(0, 1, 0, 0, 0));
        none.keeps("new: reading", Edges.UNKNOWN, x -> x.reading(0, 1, 0, 0));
        none.keeps("new: back", 0, x -> x.back(0));
        none.keeps("new: steps", Edges.UNKNOWN, x -> x.steps(0));
        none.keeps("new: wills", Edges.UNKNOWN, x -> x.wills(0));
        none.keeps("new: kinds", Edges.UNKNOWN, x -> x.kinds(0));
        none.keeps("new: odds", Edges.LOST, x -> x.odds(0, 1, 0, 0));
        none.keeps("new: tell", Edges.UNKNOWN, x -> x.tell(0));
        none.keeps("new: pat", Edges.UNKNOWN, x -> x.pat(0));
        none.refuses("new: as", Edges.UNKNOWN, x -> x.as(0, 0));
        none.keeps("new: trace", 0, x -> x.trace());
        none.keeps("new: fault", 0, x -> x.fault());
    }

    /** "SHEETS have nothing." */
    private static void noSheetsAtFirst() {
        Edges none = new Edges(CHECKS, PantomimeHorses::new);
        for (int sheet = 0; sheet < 4; sheet++) {
            int k = sheet;
            none.keeps("new: lose " + k, 0, x -> x.lose(k));
            none.faults("new: put " + k, Edges.NULL, x -> x.put(k, 0, 0));
            none.leaves("new: cell " + k, Edges.LOST, 1, x -> x.cell(k, 0, 0));
            none.faults("new: copy " + k, Edges.NULL, x -> x.copy(k, 0, k, 0, 0));
            none.faults("new: duchy " + k, Edges.NULL, x -> x.duchy(k, 0, 0, 0));
            none.faults("new: day " + k, Edges.NULL, x -> x.day(k, 0, 0, 0, 0));
        }
    }

    /** The codes that go on at a place: NOON 1 .. 9, a letter f, h, o, STEP 0 .. 9, WILL 0 .. 3. */
    private static String goingOn(int place) {
        if (place < 2) {
            return place == 0 ? "d" : "123456789";
        }
        return new String[] {";", "fho", "0123456789", "0123"}[(place - 2) % 4];
    }

    /** "the place of the first code with which no TEXT goes on": each byte at each place of a text of eight. */
    private static void eachCodeAtEachPlace() {
        for (int place = 0; place < EIGHT.length(); place++) {
            for (int code = Byte.MIN_VALUE; code <= Byte.MAX_VALUE; code++) {
                int[] codes = EIGHT.chars().toArray();
                codes[place] = code;
                boolean goesOn = code >= 0 && goingOn(place).indexOf((char) code) >= 0;
                due("code " + code + " at " + place, taken(0, codes), goesOn ? 8 : -100 - place);
            }
        }
    }

    /** A short or an int that is a code but for what a byte has no room for is no code. */
    private static void codesOfWiderLanes() {
        for (int place = 0; place < EIGHT.length(); place++) {
            for (int more : new int[] {256, -256, 65536, Integer.MIN_VALUE}) {
                int[] codes = EIGHT.chars().toArray();
                codes[place] += more;
                due("an int, " + more + " more at " + place, taken(2, codes), -100 - place);
                if (Math.abs(more) == 256) {
                    due("a short, " + more + " more at " + place, taken(1, codes), -100 - place);
                }
            }
        }
    }

    /** "what comes to a cell of it is cut to its LANE": so by then it is a code. */
    private static void codesCutToTheirLane() {
        int[] codes = EIGHT.chars().toArray();
        for (int c = 0; c < codes.length; c++) {
            codes[c] += 256 * (c + 1);
        }
        due("cut to bytes", taken(0, codes), 8);
        for (int c = 0; c < codes.length; c++) {
            codes[c] = EIGHT.charAt(c) - 65536 * (c + 1);
        }
        due("cut to shorts", taken(1, codes), 8);
        due("ints are not cut", taken(2, codes), -100);
    }

    /** "2 to 8 PEOPLE", "how many codes there are, if it just ends too soon": each beginning of a text of eight. */
    private static void textsThatEndTooSoon() {
        for (int n = 0; n <= EIGHT.length(); n++) {
            boolean whole = n >= 10 && n % 4 == 2;
            due(n + " codes", taken(EIGHT.substring(0, n)), whole ? (n - 2) / 4 : -100 - n);
            PantomimeHorses x = new PantomimeHorses();
            Checks.fill(x, 1, 2, ("ff" + EIGHT).chars().toArray());
            due(n + " codes of more", x.duchy(1, 2, 2, n), whole ? (n - 2) / 4 : -100 - n);
        }
    }

    /** "(the ; of a ninth PERSON)": whatever comes behind eight, and however much. */
    private static void aNinthPerson() {
        StringBuilder longer = new StringBuilder(EIGHT);
        while (longer.length() < 58) {
            longer.append(";f00");
        }
        longer.append(";f");
        for (int n = 35; n <= 60; n++) {
            due(n + " codes", taken(longer.substring(0, n)), -134);
        }
        for (char code : new char[] {'d', 'f', '0', ':', 0}) {
            due("behind eight " + (int) code, taken(EIGHT + code), -134);
        }
    }

    /** "the first code": of two that are wrong; and one that is wrong goes ahead of an end that is too soon. */
    private static void theFirstOfTwoFaults() {
        due("two wrong codes", taken("d9;x00;f1x"), -103);
        due("a wrong code, then too soon", taken("d9;f04"), -105);
        due("a wrong code at the end, too soon", taken("d9;f00:"), -106);
        due("a wrong code, then a ninth", taken(EIGHT.substring(0, 33) + "4;f00"), -133);
        due("d alone is a text of one code", taken("x"), -100);
        due("big letters", taken("D9;f00;f00"), -100);
        due("big letters", taken("d9;F00;f00"), -103);
    }

    /** "-100 less the FIRST FAULT": it changes nothing, and fault() is 0, as there was no FAULT. */
    private static void textsThatAreNotTaken() {
        EDGES.leaves("no code", -100, 0, x -> x.duchy(0, 0, 0, 0));
        EDGES.leaves("one PERSON", -106, 0, x -> x.duchy(0, 0, 0, 6));
        EDGES.leaves("the last code is missing", -125, 0, x -> x.duchy(0, 0, 0, 25));
        EDGES.leaves("no d", -100, 0, x -> x.duchy(0, 0, 1, 25));
        EDGES.leaves("a sheet of other numbers", -100, 0, x -> x.duchy(1, 1, 0, 8));
    }

    /** "A TEXT that is taken makes all anew": as if nothing had been, but for the sheets and TRACE. */
    private static void textsThatAreTaken() {
        PantomimeHorses first = World.withoutDuchy();
        due("taken", first.duchy(0, 0, 0, World.CODES), 6);
        List<String> wants = World.seen(first);
        PantomimeHorses again = World.made();
        again.train(0, 9);
        again.bid(4, 3);
        due("taken again", again.duchy(0, 0, 0, World.CODES), 6);
        due("fault() is past", again.fault(), 0);
        List<String> rows = World.seen(again);
        due("as many rows", rows.size(), wants.size());
        for (int r = 1; r < wants.size(); r++) {
            CHECKS.same("anew", rows.get(r), wants.get(r));
        }
        due("TRACE stays", again.trace(), 2 * 31 + 1);
        again.hours(1);
        due("HOURS from 0 on", again.many(2), 1);
        due("READINGS from 0 on", again.reading(0, 1, 0, 0), 0);
    }

    /** PEOPLE who are no more are UNKNOWN, and are not JOINED when there are as many again. */
    private static void peopleFewerAndMore() {
        PantomimeHorses x = Checks.of(EIGHT);
        x.join(6, 7);
        x.join(1, 5);
        x.hours(1);
        Checks.tellDuchy(x, "d1;f00;f11");
        due("fewer", x.many(0), 2);
        due("fewer", x.ofPerson(2, 0), Edges.UNKNOWN);
        due("fewer: 1 is not JOINED", x.ofPerson(1, 4), Edges.NONE);
        due("fewer: no HORSES", x.many(3), 0);
        Checks.tellDuchy(x, EIGHT);
        for (int p = 0; p < 8; p++) {
            due("more: JOINED", x.ofPerson(p, 4), Edges.NONE);
            due("more: FRONT", x.ofPerson(p, 5), 0);
            due("more: column", x.where(p, 0), 0);
            due("more: row", x.where(p, 1), 0);
        }
        due("more: no HORSES", x.many(3), 0);
    }

    /** "UNKNOWN": SHEETS are 0 .. 3. */
    private static void sheetOfDuchy() {
        EDGES.withinOfFaults("duchy: sheet", 0, 3, Edges.UNKNOWN, (x, v) -> x.duchy(v, 0, 0, World.CODES));
        for (int k = 0; k < 4; k++) {
            PantomimeHorses x = new PantomimeHorses();
            Checks.fill(x, k, 0, EIGHT.chars().toArray());
            due("duchy of sheet " + k, x.duchy(k, 0, 0, EIGHT.length()), 8);
        }
    }

    /** "OUTSIDE: lane": LANES are 0 .. 2. */
    private static void laneOfDuchy() {
        EDGES.withinOfFaults("duchy: lane", 0, 2, Edges.OUTSIDE, (x, v) -> x.duchy(0, v, 0, World.CODES));
        for (int lane = 0; lane < 3; lane++) {
            due("duchy of lane " + lane, taken(lane, EIGHT.chars().toArray()), 8);
        }
    }

    /** "SIZE: n is below 0". */
    private static void sizeOfDuchy() {
        EDGES.faults("n -1", Edges.SIZE, x -> x.duchy(0, 0, 0, -1));
        EDGES.faults("the least n", Edges.SIZE, x -> x.duchy(0, 0, 0, Integer.MIN_VALUE));
        EDGES.leaves("n 0", -100, 0, x -> x.duchy(0, 0, 0, 0));
    }

    /** "INDEX: not all cells are there", and "also where i is not 0 .. how many there are, if none is taken, too". */
    private static void indexOfDuchy() {
        EDGES.answers("all cells", 6, x -> x.duchy(0, 0, 0, World.CODES));
        EDGES.faults("one too many", Edges.INDEX, x -> x.duchy(0, 0, 0, World.CODES + 1));
        EDGES.faults("from 1 on", Edges.INDEX, x -> x.duchy(0, 0, 1, World.CODES));
        EDGES.faults("from -1 on", Edges.INDEX, x -> x.duchy(0, 0, -1, World.CODES));
        EDGES.leaves("the last cell", -100, 0, x -> x.duchy(0, 0, World.CODES - 1, 1));
        EDGES.faults("the cell behind the last", Edges.INDEX, x -> x.duchy(0, 0, World.CODES, 1));
        EDGES.leaves("none, from the end on", -100, 0, x -> x.duchy(0, 0, World.CODES, 0));
        EDGES.faults("none, from behind the end on", Edges.INDEX, x -> x.duchy(0, 0, World.CODES + 1, 0));
        EDGES.faults("none, from -1 on", Edges.INDEX, x -> x.duchy(0, 0, -1, 0));
        EDGES.faults("the most", Edges.INDEX, x -> x.duchy(0, 0, 0, Integer.MAX_VALUE));
        EDGES.faults("a sum that wraps", Edges.INDEX, x -> x.duchy(0, 0, 1, Integer.MAX_VALUE));
        EDGES.faults("both the most", Edges.INDEX, x -> x.duchy(0, 0, Integer.MAX_VALUE, Integer.MAX_VALUE));
        EDGES.faults("from the least on", Edges.INDEX, x -> x.duchy(0, 0, Integer.MIN_VALUE, 26));
        PantomimeHorses x = new PantomimeHorses();
        x.sheet(0, 0, 0);
        due("of an empty row none", x.duchy(0, 0, 0, 0), -100);
        due("of an empty row one", x.duchy(0, 0, 0, 1), Edges.INDEX);
        due("of an empty row none from 1 on", x.duchy(0, 0, 1, 0), Edges.INDEX);
    }

    /** "CAST (nothing is no CAST), NULL". */
    private static void castAndNullOfDuchy() {
        EDGES.faults("bytes as shorts", Edges.CAST, x -> x.duchy(0, 1, 0, World.CODES));
        EDGES.faults("bytes as ints", Edges.CAST, x -> x.duchy(0, 2, 0, World.CODES));
        EDGES.faults("shorts as bytes", Edges.CAST, x -> x.duchy(1, 0, 0, 0));
        EDGES.faults("ints as shorts", Edges.CAST, x -> x.duchy(2, 1, 0, 0));
        Edges lost = new Edges(CHECKS, World::withALostSheet);
        for (int l = 0; l < 3; l++) {
            int lane = l;
            EDGES.faults("nothing, lane " + lane, Edges.NULL, x -> x.duchy(3, lane, 0, 0));
            lost.faults("nothing any more, lane " + lane, Edges.NULL, x -> x.duchy(2, lane, 0, 0));
        }
    }

    /** What comes first where two are due: UNKNOWN, OUTSIDE, CAST or NULL, SIZE, INDEX, the FIRST FAULT. */
    private static void whatComesFirstOfDuchy() {
        EDGES.refuses("UNKNOWN, OUTSIDE", Edges.UNKNOWN, x -> x.duchy(4, 3, 0, 26));
        EDGES.refuses("UNKNOWN, SIZE", Edges.UNKNOWN, x -> x.duchy(-1, 0, 0, -1));
        EDGES.refuses("UNKNOWN, INDEX", Edges.UNKNOWN, x -> x.duchy(4, 0, -1, 26));
        EDGES.refuses("OUTSIDE, NULL", Edges.OUTSIDE, x -> x.duchy(3, 3, 0, 26));
        EDGES.refuses("OUTSIDE, SIZE", Edges.OUTSIDE, x -> x.duchy(0, -1, 0, -1));
        EDGES.refuses("OUTSIDE, INDEX", Edges.OUTSIDE, x -> x.duchy(0, 3, 0, 27));
        EDGES.faults("CAST, SIZE", Edges.CAST, x -> x.duchy(0, 1, 0, -1));
        EDGES.faults("CAST, INDEX", Edges.CAST, x -> x.duchy(0, 2, 0, 27));
        EDGES.faults("CAST, a FIRST FAULT", Edges.CAST, x -> x.duchy(1, 0, 0, 8));
        EDGES.faults("NULL, SIZE", Edges.NULL, x -> x.duchy(3, 0, 0, -1));
        EDGES.faults("NULL, INDEX", Edges.NULL, x -> x.duchy(3, 0, 1, 1));
        EDGES.faults("SIZE, INDEX", Edges.SIZE, x -> x.duchy(0, 0, 27, -1));
        EDGES.faults("SIZE, INDEX below", Edges.SIZE, x -> x.duchy(0, 0, -1, -1));
        EDGES.faults("INDEX, a FIRST FAULT", Edges.INDEX, x -> x.duchy(0, 0, 1, 26));
    }

    /** Promise 3: "UNKNOWN; OUTSIDE", what 0 .. 5. */
    private static void person() {
        EDGES.within("ofPerson: p", 0, 5, Edges.UNKNOWN, (x, v) -> x.ofPerson(v, 0));
        EDGES.within("ofPerson: what", 0, 5, Edges.OUTSIDE, (x, v) -> x.ofPerson(0, v));
        EDGES.keeps("ofPerson: UNKNOWN, OUTSIDE", Edges.UNKNOWN, x -> x.ofPerson(6, 6));
        EDGES.keeps("ofPerson: UNKNOWN, OUTSIDE", Edges.UNKNOWN, x -> x.ofPerson(-1, -1));
        EDGES.keeps("the first's kind", 0, x -> x.ofPerson(0, 0));
        EDGES.keeps("the last's kind", 2, x -> x.ofPerson(5, 0));
        EDGES.keeps("JOINED to PERSON 0", 0, x -> x.ofPerson(1, 4));
        EDGES.keeps("JOINED to nobody", Edges.NONE, x -> x.ofPerson(4, 4));
        EDGES.keeps("in FRONT", 1, x -> x.ofPerson(3, 5));
        EDGES.keeps("not in FRONT", 0, x -> x.ofPerson(2, 5));
        EDGES.keeps("not JOINED: not in FRONT", 0, x -> x.ofPerson(5, 5));
    }

    /** Promise 4: "LOST: UNKNOWN; OUTSIDE", what 0 .. 1. */
    private static void where() {
        EDGES.within("where: p", 0, 5, Edges.LOST, (x, v) -> x.where(v, 0));
        EDGES.within("where: what", 0, 1, Edges.LOST, (x, v) -> x.where(0, v));
        EDGES.keeps("the column", 10, x -> x.where(0, 0));
        EDGES.keeps("the row", 4, x -> x.where(0, 1));
        EDGES.keeps("a column below 0", -4, x -> x.where(2, 0));
        EDGES.keeps("the last's row", 0, x -> x.where(5, 1));
    }

    private static void dueOnly(String call, PantomimeHorses x, String... changed) {
        List<String> rows = World.seen(x);
        List<String> before = World.seen(World.made());
        for (int r = 0; r < before.size(); r++) {
            if (!rows.get(r).equals(before.get(r))) {
                due(call + " changes " + rows.get(r), Arrays.asList(changed).contains(rows.get(r)) ? 1 : 0, 1);
            }
        }
        due(call, x.many(0), 6);
    }

    /** Promise 5: "STEP becomes v (0 .. 9): what it was. UNKNOWN; OUTSIDE". */
    private static void train() {
        EDGES.within("train: p", 0, 5, Edges.UNKNOWN, (x, v) -> x.train(v, 0));
        EDGES.within("train: v", 0, 9, Edges.OUTSIDE, (x, v) -> x.train(4, v));
        EDGES.keeps("train: UNKNOWN, OUTSIDE", Edges.UNKNOWN, x -> x.train(6, 10));
        EDGES.keeps("train: UNKNOWN, OUTSIDE", Edges.UNKNOWN, x -> x.train(-1, -1));
        EDGES.keeps("train: as it was", 1, x -> x.train(4, 1));
        PantomimeHorses x = World.made();
        due("train to 9", x.train(4, 9), 1);
        due("train keeps fault()", x.fault(), World.FAULT);
        dueOnly("train to 9", x, "ofPerson(4, 1) = 9", "ofPerson(4, 3) = 10");
        due("train to 0", x.train(4, 0), 9);
        due("STEP 0", x.ofPerson(4, 1), 0);
        due("what it was, 0", x.train(4, 5), 0);
    }

    /** Promise 6: "WILL becomes v (0 .. 3): what it was. UNKNOWN; OUTSIDE". */
    private static void bid() {
        EDGES.within("bid: p", 0, 5, Edges.UNKNOWN, (x, v) -> x.bid(v, 0));
        EDGES.within("bid: v", 0, 3, Edges.OUTSIDE, (x, v) -> x.bid(4, v));
        EDGES.keeps("bid: UNKNOWN, OUTSIDE", Edges.UNKNOWN, x -> x.bid(6, 4));
        EDGES.keeps("bid: UNKNOWN, OUTSIDE", Edges.UNKNOWN, x -> x.bid(-1, -1));
        EDGES.keeps("bid: as it was", 1, x -> x.bid(4, 1));
        PantomimeHorses x = World.made();
        due("bid to 3", x.bid(4, 3), 1);
        due("bid keeps fault()", x.fault(), World.FAULT);
        dueOnly("bid to 3", x, "ofPerson(4, 2) = 3");
        due("bid to 0", x.bid(4, 0), 3);
        due("WILL 0", x.ofPerson(4, 2), 0);
        due("what it was, 0", x.bid(4, 2), 0);
    }

    /** "of a FORE STEP; of a HIND one 1 more; of an OLD one half of what a FORE's is. Quotients are cut." */
    private static void strides() {
        PantomimeHorses x = Checks.of("d9;f00;h00;o00");
        for (int step = 0; step < 10; step++) {
            for (int p = 0; p < 3; p++) {
                x.train(p, step);
            }
            due("FORE of STEP " + step, x.ofPerson(0, 3), step);
            due("HIND of STEP " + step, x.ofPerson(1, 3), step + 1);
            due("OLD of STEP " + step, x.ofPerson(2, 3), new int[] {0, 0, 1, 1, 2, 2, 3, 3, 4, 4}[step]);
        }
    }

    /** Promise 7: "UNKNOWN: either, both the same"; quarters are 0 .. 2, past 0 too. */
    private static void jars() {
        EDGES.within("jar: a", 0, 5, Edges.UNKNOWN, (x, v) -> x.jar(v, 3));
        EDGES.within("jar: b", 0, 5, Edges.UNKNOWN, (x, v) -> x.jar(3, v));
        for (int v = 0; v < 6; v++) {
            int p = v;
            EDGES.keeps("jar: both are " + p, Edges.UNKNOWN, x -> x.jar(p, p));
        }
        EDGES.keeps("jar: both are nobody", Edges.UNKNOWN, x -> x.jar(6, 6));
        EDGES.keeps("jar: either is nobody", Edges.UNKNOWN, x -> x.jar(-1, 6));
        EDGES.keeps("jar", 3, x -> x.jar(2, 1));
        PantomimeHorses x = Checks.of("d9;f00;h90");
        int[][] quarters = {{0, 1, 2, 1}, {1, 0, 1, 2}, {2, 1, 0, 1}, {1, 2, 1, 0}};
        for (int a = 0; a < 4; a++) {
            for (int b = 0; b < 4; b++) {
                x.bid(0, a);
                x.bid(1, b);
                due("10 apart, WILLS " + a + " " + b, x.jar(0, 1), 10 + quarters[a][b]);
                due("10 apart, WILLS " + b + " " + a, x.jar(1, 0), 10 + quarters[a][b]);
            }
        }
        x.train(0, 1);
        x.train(1, 0);
        due("no JAR", x.jar(0, 1), 0);
    }

    /** "there is no such PERSON": the last and the first that is not, of two and of eight. */
    private static void personsOfTwoAndOfEight() {
        PantomimeHorses two = Checks.of("d1;f21;f31");
        due("the second of two", two.ofPerson(1, 1), 3);
        due("a third of two", two.ofPerson(2, 1), Edges.UNKNOWN);
        due("a third of two", two.jar(2, 0), Edges.UNKNOWN);
        PantomimeHorses eight = Checks.of(EIGHT);
        due("the eighth", eight.ofPerson(7, 1), 7);
        due("a ninth", eight.ofPerson(8, 1), Edges.UNKNOWN);
        due("a ninth", eight.jar(8, 0), Edges.UNKNOWN);
        due("the eighth is trained", eight.train(7, 9), 7);
        due("a ninth is trained", eight.train(8, 9), Edges.UNKNOWN);
        due("the eighth is bid", eight.bid(7, 0), 3);
        due("a ninth is bid", eight.bid(8, 0), Edges.UNKNOWN);
    }
}
