/** Promises 16 to 21: readings, what they leave open, odds. */
public final class WayTest {
    private static final Checks CHECKS = new Checks();
    private static final long LOST = Long.MIN_VALUE;

    public static void main(String[] args) {
        readings();
        sets();
        odds();
        CHECKS.end();
    }

    private static void due(String call, long got, long want) {
        CHECKS.due(call, got, want);
    }

    private static void readings() {
        PantomimeHorses x = new PantomimeHorses();
        due("nobody", x.reading(0, 1, 99, 0), -1);
        due("back 0", x.back(0), 0);
        due("back 1", x.back(1), -2);
        Checks.tellDuchy(x, "d5;f51;h42;o80");
        due("himself", x.reading(1, 1, 0, 0), -1);
        due("nobody", x.reading(0, 3, 0, 0), -1);
        due("nobody", x.reading(-1, 0, 0, 0), -1);
        due("columns 21", x.reading(0, 1, 21, 0), -2);
        due("columns -21", x.reading(0, 1, -21, 0), -2);
        due("rows 21", x.reading(0, 1, 0, 21), -2);
        due("rows -21", x.reading(0, 1, 0, -21), -2);
        for (int r = 0; r < 8; r++) {
            due("reading " + r, x.reading(0, 1, r % 2 == 0 ? 20 : -20, r % 2 == 0 ? -20 : 20), r);
        }
        due("READINGS", x.many(4), 8);
        due("FULL", x.reading(0, 1, 0, 0), -4);
        due("OUTSIDE ahead of FULL", x.reading(0, 1, 21, 0), -2);
        due("UNKNOWN ahead of FULL", x.reading(0, 0, 0, 0), -1);
        due("back 9", x.back(9), -2);
        due("back -1", x.back(-1), -2);
        due("back 0", x.back(0), 8);
        due("back 3", x.back(3), 5);
        due("numbered by how many there are", x.reading(0, 1, 0, 0), 5);
        due("all back", x.back(6), 0);
        due("READINGS", x.many(4), 0);
    }

    private static void sets() {
        PantomimeHorses x = Checks.of("d5;f51;h42;o80");
        dueSets("no READINGS", x, 0, 1023, 15, 7);
        // 0 in FRONT: (5, 0) and half of 5 down: (5, 2).
        x.reading(0, 1, 5, 2);
        dueSets("in FRONT", x, 0, 1 << 5, 1 << 1, 1);
        // Half of the STRIDE is 2 by a STRIDE of 4 or 5: STEP 3 or 4, and FORE or HIND of STEP 4.
        dueSets("behind", x, 1, (1 << 3) | (1 << 4), 1 << 2, 3);
        dueSets("in no READING", x, 2, 1023, 15, 7);
        // 2 in FRONT: half of 8 up, and 2 to the right of 0's half.
        x.reading(2, 0, 2, -4);
        dueSets("half a STEP", x, 2, (1 << 8) | (1 << 9), 1, 4);
        // One that is not so, though a STEP of 6 would make it so for 0 alone.
        x.reading(0, 1, 6, 2);
        dueSets("not all are so", x, 0, 0, 0, 0);
        dueSets("not all are so", x, 2, 0, 0, 0);
        x.back(3);
        x.reading(0, 1, 6, 2);
        dueSets("what it is not now", x, 0, 1 << 6, 0, 1 << 1);
        dueSets("the others as they are", x, 1, 0, 0, 0);
        x.train(0, 0);
        x.back(1);
        x.reading(0, 1, 0, 2);
        dueSets("no STRIDE, any WILL", x, 0, 1, 15, 5);
        due("nothing is changed", x.ofPerson(0, 1), 0);
        due("nothing is changed", x.ofPerson(0, 2), 1);
        due("nothing is changed", x.ofPerson(0, 0), 0);
        for (int p : new int[] {-1, 3}) {
            dueSets("nobody", x, p, -1, -1, -1);
        }
    }

    private static void dueSets(String call, PantomimeHorses x, int p, int steps, int wills, int kinds) {
        due(call + ", steps(" + p + ")", x.steps(p), steps);
        due(call + ", wills(" + p + ")", x.wills(p), wills);
        due(call + ", kinds(" + p + ")", x.kinds(p), kinds);
    }

    private static void dueOdds(PantomimeHorses x, int a, int b, int v, long upper, long lower) {
        due("odds(" + a + ", " + b + ", " + v + ", 0)", x.odds(a, b, v, 0), upper);
        due("odds(" + a + ", " + b + ", " + v + ", 1)", x.odds(a, b, v, 1), lower);
    }

    private static void odds() {
        PantomimeHorses x = Checks.of("d5;f51;h40;o83;h90;h90");
        // 5 and 2: by 4 of 16 ways they are 3 long, else 7.
        dueOdds(x, 0, 1, 0, 1, 1);
        dueOdds(x, 0, 1, 3, 1, 1);
        dueOdds(x, 0, 1, 4, 3, 4);
        dueOdds(x, 0, 1, 7, 3, 4);
        dueOdds(x, 0, 1, 8, 0, 1);
        // 4 and 2: who is in FRONT is not alike.
        dueOdds(x, 2, 0, 6, 3, 4);
        dueOdds(x, 0, 2, 7, 3, 4);
        dueOdds(x, 3, 4, 15, 3, 4);
        dueOdds(x, 3, 4, 20, 0, 1);
        due("himself", x.odds(0, 0, 0, 0), LOST);
        due("nobody", x.odds(0, 5, 0, 0), LOST);
        due("nobody", x.odds(-1, 0, 0, 0), LOST);
        due("v 21", x.odds(0, 1, 21, 0), LOST);
        due("v -1", x.odds(0, 1, -1, 0), LOST);
        due("which 2", x.odds(0, 1, 0, 2), LOST);
        due("which -1", x.odds(0, 1, 0, -1), LOST);
        due("nothing is changed", x.ofPerson(0, 2), 1);
        due("no duchy", new PantomimeHorses().odds(0, 1, 0, 0), LOST);
    }
}
