/** Promises 16 to 21 and section 4 of the terms, at their edges: a test of each sentence that names one. */
public final class WayEdgesTest {
    private static final Checks CHECKS = new Checks();
    private static final Edges EDGES = new Edges(CHECKS, World::made);
    private static final int ALL_STEPS = 1023, ALL_WILLS = 15, ALL_KINDS = 7;

    public static void main(String[] args) {
        reading();
        readingsAreEight();
        full();
        back();
        backToTheLastLeft();
        sets();
        emptyAndFullSets();
        endsOfSteps();
        endsOfWills();
        endsOfKinds();
        waysAtTheirFarthest();
        allReadings();
        setsByHowAllIsNow();
        odds();
        oddsAtTheirEdges();
        CHECKS.end();
    }

    private static void due(String call, long got, long want) {
        CHECKS.due(call, got, want);
    }

    private static PantomimeHorses withEight() {
        PantomimeHorses x = World.made();
        for (int r = 2; r < 8; r++) {
            x.reading(0, 1, 5, 2);
        }
        return x;
    }

    /** Promise 16: "UNKNOWN: either, both the same; OUTSIDE: columns, rows (-20 .. 20)". */
    private static void reading() {
        EDGES.within("reading: a", 0, 5, Edges.UNKNOWN, (x, v) -> x.reading(v, 3, 0, 0));
        EDGES.within("reading: b", 0, 5, Edges.UNKNOWN, (x, v) -> x.reading(3, v, 0, 0));
        EDGES.within("reading: columns", -20, 20, Edges.OUTSIDE, (x, v) -> x.reading(4, 5, v, 0));
        EDGES.within("reading: rows", -20, 20, Edges.OUTSIDE, (x, v) -> x.reading(4, 5, 0, v));
        for (int v = 0; v < 6; v++) {
            int p = v;
            EDGES.keeps("both are " + p, Edges.UNKNOWN, x -> x.reading(p, p, 0, 0));
        }
        EDGES.keeps("both are nobody", Edges.UNKNOWN, x -> x.reading(6, 7, 0, 0));
        EDGES.keeps("UNKNOWN, OUTSIDE columns", Edges.UNKNOWN, x -> x.reading(6, 0, 21, 0));
        EDGES.keeps("UNKNOWN, OUTSIDE rows", Edges.UNKNOWN, x -> x.reading(0, -1, 0, -21));
        EDGES.keeps("the same, OUTSIDE", Edges.UNKNOWN, x -> x.reading(0, 0, -21, 21));
        EDGES.answers("the corners", 2, x -> x.reading(4, 5, 20, -20));
        EDGES.answers("the corners", 2, x -> x.reading(4, 5, -20, 20));
        EDGES.answers("of who are JOINED", 2, x -> x.reading(1, 0, 0, 0));
        EDGES.answers("of two HORSES", 2, x -> x.reading(1, 2, 0, 0));
        PantomimeHorses x = World.made();
        x.reading(4, 5, 1, 0);
        due("fault() is kept", x.fault(), World.FAULT);
    }

    /** "READINGS, 8 at most, numbered by how many there are". */
    private static void readingsAreEight() {
        PantomimeHorses x = Checks.of("d1;f11;f11");
        for (int r = 0; r < 8; r++) {
            due("READINGS ahead", x.many(4), r);
            due("its number", x.reading(0, 1, 0, 0), r);
        }
        due("READINGS", x.many(4), 8);
        due("a ninth", x.reading(0, 1, 0, 0), Edges.FULL);
        due("READINGS", x.many(4), 8);
        due("one back", x.back(1), 7);
        due("its number again", x.reading(1, 0, 0, 0), 7);
        due("a ninth again", x.reading(0, 1, 0, 0), Edges.FULL);
    }

    /** "FULL": behind UNKNOWN and OUTSIDE; the ninth is not one of them. */
    private static void full() {
        Edges eight = new Edges(CHECKS, WayEdgesTest::withEight);
        eight.keeps("FULL", Edges.FULL, x -> x.reading(0, 1, 5, 2));
        eight.keeps("FULL, of one that is not so", Edges.FULL, x -> x.reading(4, 5, 20, 20));
        eight.keeps("UNKNOWN, FULL", Edges.UNKNOWN, x -> x.reading(6, 0, 0, 0));
        eight.keeps("the same, FULL", Edges.UNKNOWN, x -> x.reading(0, 0, 0, 0));
        eight.keeps("OUTSIDE columns, FULL", Edges.OUTSIDE, x -> x.reading(0, 1, 21, 0));
        eight.keeps("OUTSIDE rows, FULL", Edges.OUTSIDE, x -> x.reading(0, 1, 0, -21));
        eight.within("back of eight: n", 0, 8, Edges.OUTSIDE, (x, v) -> x.back(v));
    }

    /** Promise 17: "The last n READINGS (0 .. as many as there are)". "OUTSIDE". */
    private static void back() {
        EDGES.within("back: n", 0, 2, Edges.OUTSIDE, (x, v) -> x.back(v));
        EDGES.keeps("none", 2, x -> x.back(0));
        EDGES.answers("one", 1, x -> x.back(1));
        EDGES.answers("all", 0, x -> x.back(2));
        EDGES.answers("none any more", Edges.OUTSIDE, x -> x.back(2) + x.back(1));
        Edges none = new Edges(CHECKS, World::withoutDuchy);
        none.within("back without a DUCHY: n", 0, 0, Edges.OUTSIDE, (x, v) -> x.back(v));
        PantomimeHorses x = World.made();
        x.back(1);
        due("fault() is kept", x.fault(), World.FAULT);
    }

    /** "The last n": those that are left are the first. */
    private static void backToTheLastLeft() {
        PantomimeHorses x = Checks.of("d1;f01;f01;f01");
        x.reading(0, 2, 1, 0);
        x.reading(1, 2, 2, 0);
        x.reading(0, 2, 3, 0);
        due("two that can't both be", x.steps(0), 0);
        x.back(1);
        due("0 in place of 0 alone: 1 is not so", x.steps(0), 0);
        x.back(1);
        due("the first is left", x.steps(0), 1 << 1);
        due("the second is not", x.steps(1), 0);
        x.reading(0, 2, 1, 0);
        due("the same once more", x.steps(0), 1 << 1);
        x.back(2);
        due("none is left", x.steps(0), ALL_STEPS);
    }

    private static void dueSets(String call, PantomimeHorses x, int p, int steps, int wills, int kinds) {
        due(call + ", steps(" + p + ")", x.steps(p), steps);
        due(call + ", wills(" + p + ")", x.wills(p), wills);
        due(call + ", kinds(" + p + ")", x.kinds(p), kinds);
    }

    /** Promises 18 to 20: "UNKNOWN"; they change nothing. */
    private static void sets() {
        EDGES.within("steps: p", 0, 5, Edges.UNKNOWN, (x, v) -> x.steps(v));
        EDGES.within("wills: p", 0, 5, Edges.UNKNOWN, (x, v) -> x.wills(v));
        EDGES.within("kinds: p", 0, 5, Edges.UNKNOWN, (x, v) -> x.kinds(v));
        EDGES.keeps("steps", 1 << 5, x -> x.steps(0));
        EDGES.keeps("wills", 1 << 1, x -> x.wills(0));
        EDGES.keeps("kinds", 1, x -> x.kinds(0));
        EDGES.keeps("steps of the last", ALL_STEPS, x -> x.steps(5));
        EDGES.keeps("wills of the last", ALL_WILLS, x -> x.wills(5));
        EDGES.keeps("kinds of the last", ALL_KINDS, x -> x.kinds(5));
    }

    /** "by which all READINGS are so": without any all are; with one that can't be none. */
    private static void emptyAndFullSets() {
        PantomimeHorses x = Checks.of("d1;f11;h22;o83");
        for (int p = 0; p < 3; p++) {
            dueSets("no READINGS", x, p, ALL_STEPS, ALL_WILLS, ALL_KINDS);
        }
        x.reading(0, 1, 20, 20);
        for (int p = 0; p < 3; p++) {
            dueSets("one that can't be", x, p, 0, 0, 0);
        }
        x.back(1);
        // (1, 0) and half of 3 down: it is so, and 2 has no part in it.
        x.reading(0, 1, 1, 1);
        dueSets("who has no part in it", x, 2, ALL_STEPS, ALL_WILLS, ALL_KINDS);
        due("nobody", x.steps(3), Edges.UNKNOWN);
        due("nobody", x.wills(3), Edges.UNKNOWN);
        due("nobody", x.kinds(3), Edges.UNKNOWN);
    }

    /** "STEPS of a PERSON: 0 .. 9": each alone, of one in FRONT and behind; halves are cut. */
    private static void endsOfSteps() {
        for (int step = 0; step <= 9; step++) {
            PantomimeHorses x = Checks.of("d1;f11;h10;o12");
            // 1 is a HIND of STRIDE 2, so half of it is one up.
            x.reading(0, 1, step, -1);
            due("FORE, STEP " + step, x.steps(0), 1 << step);
            x.back(1);
            x.train(0, 0);
            x.reading(1, 0, 0, -step);
            due("HIND, STRIDE " + step, x.steps(1), step == 0 ? 0 : 1 << (step - 1));
            x.back(1);
            x.reading(2, 0, 0, step);
            due("OLD, STRIDE " + step, x.steps(2), step > 4 ? 0 : 3 << (2 * step));
            x.back(1);
            x.reading(0, 1, 0, -step);
            due("HIND, half of it " + step, x.steps(1), new int[] {1, 6, 24, 96, 384, 512, 0, 0, 0, 0}[step]);
            x.back(1);
            x.reading(0, 2, 0, step);
            due("OLD, half of it " + step, x.steps(2), new int[] {15, 240, 768, 0, 0, 0, 0, 0, 0, 0}[step]);
        }
        PantomimeHorses x = Checks.of("d1;f11;h10");
        x.reading(0, 1, 10, -1);
        due("beyond 9", x.steps(0), 0);
        x.back(1);
        x.reading(0, 1, -1, -1);
        due("below 0", x.steps(0), 0);
        x.back(1);
        x.train(0, 0);
        x.reading(1, 0, 0, -10);
        due("a HIND's most", x.steps(1), 1 << 9);
    }

    /** "WILLS of a PERSON: 0 .. 3": each alone, of one in FRONT and behind. */
    private static void endsOfWills() {
        int[] columns = {0, 1, 0, -1};
        int[] rows = {-1, 0, 1, 0};
        for (int will = 0; will < 4; will++) {
            PantomimeHorses x = Checks.of("d1;f50;f00");
            x.reading(0, 1, 5 * columns[will], 5 * rows[will]);
            due("in FRONT, WILL " + will, x.wills(0), 1 << will);
            due("no STRIDE: any", x.wills(1), will == 0 ? ALL_WILLS : 0);
            x.back(1);
            x.reading(1, 0, 2 * columns[will], 2 * rows[will]);
            due("behind, WILL " + will, x.wills(0), 1 << will);
        }
    }

    /** "KINDS of a PERSON: 0 .. 2": each alone, some, all. */
    private static void endsOfKinds() {
        PantomimeHorses x = Checks.of("d1;f41;f01");
        int[] wants = {0, 0, 4, 0, 1, 2, 0};
        for (int stride = 0; stride < 7; stride++) {
            x.reading(0, 1, stride, 0);
            due("STRIDE " + stride, x.kinds(0), wants[stride]);
            x.back(1);
        }
        x.reading(1, 0, 2, 0);
        due("FORE, HIND", x.kinds(0), 3);
        x.back(1);
        x.train(0, 0);
        x.reading(1, 0, 0, 0);
        due("all", x.kinds(0), ALL_KINDS);
        due("FORE, OLD", x.kinds(1), 5);
        due("it is a FORE", x.ofPerson(0, 0), 0);
    }

    /** "so many columns, so many rows": both as they are, to each side; the farthest WAY there is. */
    private static void waysAtTheirFarthest() {
        PantomimeHorses x = Checks.of("d1;h91;h91");
        x.reading(0, 1, 15, 0);
        dueSets("15 columns", x, 0, 1 << 9, 1 << 1, 1 << 1);
        due("half of 10", x.steps(1), 1 << 9);
        x.back(1);
        x.reading(0, 1, 15, 1);
        dueSets("a row more", x, 0, 0, 0, 0);
        x.back(1);
        x.reading(0, 1, 15, -1);
        dueSets("a row less", x, 0, 0, 0, 0);
        x.back(1);
        x.reading(0, 1, 16, 0);
        dueSets("a column more", x, 0, 0, 0, 0);
        x.back(1);
        x.reading(0, 1, 14, 0);
        // A STEP of 8 is a HIND's STRIDE of 9, and so is a FORE's of STEP 9.
        dueSets("a column less", x, 0, 1 << 8, 0, 1);
    }

    /** "all READINGS": up to the eighth. */
    private static void allReadings() {
        PantomimeHorses x = Checks.of("d1;f31;f01");
        for (int r = 0; r < 7; r++) {
            x.reading(0, 1, 3, 0);
        }
        due("seven", x.steps(0), 1 << 3);
        x.reading(0, 1, 2, 0);
        due("the eighth is not so", x.steps(0), 0);
        x.back(8);
        x.reading(0, 1, 2, 0);
        for (int r = 0; r < 7; r++) {
            x.reading(0, 1, 3, 0);
        }
        due("the first is not so", x.steps(0), 0);
        x.back(8);
        // In FRONT he is 3, behind half of it is 1: STEP 2 or 3.
        x.reading(1, 0, 1, 0);
        due("behind", x.steps(0), 3 << 2);
        x.reading(0, 1, 3, 0);
        due("and in FRONT", x.steps(0), 1 << 3);
    }

    /** "in place of what it is alone": all else is as it is now, not as it was when it was read. */
    private static void setsByHowAllIsNow() {
        PantomimeHorses x = Checks.of("d1;f31;f42");
        x.reading(0, 1, 3, 2);
        due("so", x.steps(0), 1 << 3);
        x.train(0, 9);
        due("what it is now is no matter", x.steps(0), 1 << 3);
        due("of the other it is", x.steps(1), 0);
        due("and of his WILL", x.wills(0), 0);
        x.train(0, 3);
        x.bid(1, 0);
        due("WILL of the other", x.steps(0), 0);
        due("his own WILL", x.wills(1), 1 << 2);
        x.join(1, 0);
        x.hours(5);
        due("who is in FRONT is no matter", x.wills(1), 1 << 2);
    }

    /** Promise 21: "v (0 .. 20; which 0 .., 1 ..). LOST: UNKNOWN: either, both the same; OUTSIDE". */
    private static void odds() {
        EDGES.within("odds: a", 0, 5, Edges.LOST, (x, v) -> x.odds(v, 3, 0, 0));
        EDGES.within("odds: b", 0, 5, Edges.LOST, (x, v) -> x.odds(3, v, 0, 0));
        EDGES.within("odds: v", 0, 20, Edges.LOST, (x, v) -> x.odds(0, 1, v, 0));
        EDGES.within("odds: which", 0, 1, Edges.LOST, (x, v) -> x.odds(0, 1, 0, v));
        for (int v = 0; v < 6; v++) {
            int p = v;
            EDGES.keeps("both are " + p, Edges.LOST, x -> x.odds(p, p, 0, 0));
        }
        EDGES.keeps("both are nobody", Edges.LOST, x -> x.odds(6, 7, 0, 1));
        EDGES.keeps("the upper", 3, x -> x.odds(0, 1, 7, 0));
        EDGES.keeps("the lower", 4, x -> x.odds(0, 1, 7, 1));
    }

    private static void dueOdds(PantomimeHorses x, int a, int b, int v, long upper, long lower) {
        due("odds(" + a + ", " + b + ", " + v + ", 0)", x.odds(a, b, v, 0), upper);
        due("odds(" + a + ", " + b + ", " + v + ", 1)", x.odds(a, b, v, 1), lower);
    }

    /** "v columns and rows long together, or more"; "in least terms": 0 is 0 and 1, all are 1 and 1. */
    private static void oddsAtTheirEdges() {
        // 0 strides 10, 1 strides 9, 2 none, 3 strides 4, 4 strides 9.
        PantomimeHorses x = Checks.of("d1;h91;f92;f00;o80;h80");
        for (int v = 0; v <= 20; v++) {
            // 10 and half of 9: 6 by 4 of 16 ways, else 14.
            dueOdds(x, 0, 1, v, v <= 6 ? 1 : v <= 14 ? 3 : 0, v > 6 && v <= 14 ? 4 : 1);
            // 9 and half of 10: 4, or 14.
            dueOdds(x, 1, 0, v, v <= 4 ? 1 : v <= 14 ? 3 : 0, v > 4 && v <= 14 ? 4 : 1);
            // No STRIDE and half of 9: always 4.
            dueOdds(x, 2, 1, v, v <= 4 ? 1 : 0, 1);
            // 9 and no STRIDE: always 9.
            dueOdds(x, 4, 2, v, v <= 9 ? 1 : 0, 1);
            // 4 and half of 9: they come to nothing, or to 8.
            dueOdds(x, 3, 4, v, v <= 0 ? 1 : v <= 8 ? 3 : 0, v > 0 && v <= 8 ? 4 : 1);
        }
        PantomimeHorses y = Checks.of("d1;h91;h93;f00;o10");
        dueOdds(y, 0, 1, 15, 3, 4);
        dueOdds(y, 0, 1, 16, 0, 1);
        dueOdds(y, 2, 3, 0, 1, 1);
        dueOdds(y, 2, 3, 1, 0, 1);
    }
}
