/** Promises 1 to 7: a new object, and the people of a duchy. */
public final class DuchyTest {
    private static final Checks CHECKS = new Checks();
    private static final String EIGHT = "d9;f00;f11;h22;h33;o40;o51;f62;h73";

    public static void main(String[] args) {
        newObject();
        texts();
        firstFaults();
        refusalsOfDuchy();
        anew();
        people();
        whereTheyAre();
        trainAndBid();
        jars();
        CHECKS.end();
    }

    private static void due(String call, long got, long want) {
        CHECKS.due(call, got, want);
    }

    private static void newObject() {
        PantomimeHorses x = new PantomimeHorses();
        for (int what = 0; what < 5; what++) {
            due("new: many", x.many(what), 0);
        }
        for (int k = 0; k < 4; k++) {
            due("new: lose", x.lose(k), 0);
        }
        due("new: ofPerson", x.ofPerson(0, 0), -1);
        due("new: trace", x.trace(), 0);
        due("new: fault", x.fault(), 0);
    }

    private static void texts() {
        PantomimeHorses x = new PantomimeHorses();
        due("two people", Checks.tellDuchy(x, "d1;f00;o93"), 2);
        due("its NOON", x.many(1), 1);
        due("eight people", Checks.tellDuchy(x, EIGHT), 8);
        due("its NOON", x.many(1), 9);
        for (int lane = 0; lane < 3; lane++) {
            Checks.fill(x, 1, lane, "xxd5;h12;f33yy".chars().toArray());
            due("amid a row of lane " + lane, x.duchy(1, lane, 2, 10), 2);
            due("STEP", x.ofPerson(1, 1), 3);
        }
    }

    private static void firstFaults() {
        PantomimeHorses x = new PantomimeHorses();
        String[] texts = {"", "d", "e", "d0", "d:", "d5", "d5;", "d5f", "d5;e", "d5;f", "d5;f:", "d5;f0", "d5;f04",
            "d5;f0/", "d5;f00", "d5;f00:", "d5;f00;", "d5;f00;f0", "d5;f00;f00f", "d5;f00;f00;", "d5;f00;f00;o9",
            EIGHT + ";", EIGHT + "x", EIGHT + ";f00"};
        int[] places = {0, 1, 0, 1, 1, 2, 3, 2, 3, 4, 4, 5, 5, 5, 6, 6, 7, 9, 10, 11, 13, 34, 34, 34};
        for (int t = 0; t < texts.length; t++) {
            due("text '" + texts[t] + "'", Checks.tellDuchy(x, texts[t]), -100 - places[t]);
            due("fault() behind it", x.fault(), 0);
        }
        due("no PEOPLE by them", x.many(0), 0);
        Checks.fill(x, 0, 2, 100 + 256, 53, 59, 102, 48, 48, 59, 102, 48, 48);
        due("a code beyond a byte", x.duchy(0, 2, 0, 10), -100);
        Checks.fill(x, 0, 0, 100, -53);
        due("a code below 0", x.duchy(0, 0, 0, 2), -101);
    }

    private static void refusalsOfDuchy() {
        PantomimeHorses x = Checks.of("d5;f00;f11");
        Checks.fill(x, 1, 1, "d6;f00;f11".chars().toArray());
        due("sheet -1", x.duchy(-1, 7, 0, 10), -1);
        due("sheet 4", x.duchy(4, 0, 0, 10), -1);
        due("lane -1", x.duchy(1, -1, 0, 10), -2);
        due("lane 3", x.duchy(0, 3, 0, -1), -2);
        due("CAST", x.duchy(1, 0, 99, -1), -12);
        due("CAST, fault()", x.fault(), 2);
        due("NULL", x.duchy(0, 0, 99, -1), -11);
        due("NULL, fault()", x.fault(), 1);
        due("SIZE", x.duchy(1, 1, 99, -1), -14);
        due("SIZE, fault()", x.fault(), 4);
        due("INDEX below", x.duchy(1, 1, -1, 10), -13);
        due("INDEX, fault()", x.fault(), 3);
        due("INDEX beyond", x.duchy(1, 1, 1, 10), -13);
        due("INDEX, no cell is taken", x.duchy(1, 1, 11, 0), -13);
        due("no cell, at the end", x.duchy(1, 1, 10, 0), -100);
        due("INDEX by a sum that wraps", x.duchy(1, 1, 10, Integer.MAX_VALUE), -13);
        due("INDEX by the least i", x.duchy(1, 1, Integer.MIN_VALUE, Integer.MAX_VALUE), -13);
        due("nothing is changed", x.many(1), 5);
        due("refused, fault()", x.duchy(4, 0, 0, 0), -1);
        due("refused, fault()", x.fault(), 0);
    }

    private static void anew() {
        PantomimeHorses x = Checks.of("d5;f31;f42;h00");
        x.join(0, 1);
        x.hours(3);
        x.reading(0, 1, 0, 0);
        x.tell(0);
        Checks.tellDuchy(x, "d5;f31;f11;");
        due("a fault leaves the HOUR", x.many(2), 3);
        due("a fault leaves the HORSE", x.many(3), 1);
        due("a fault leaves the READING", x.many(4), 1);
        due("a fault leaves the column", x.where(0, 0), 9);
        due("a fault leaves the row", x.where(0, 1), 6);
        Checks.tellDuchy(x, "d4;f31;f11");
        due("anew: PEOPLE", x.many(0), 2);
        due("anew: NOON", x.many(1), 4);
        due("anew: HOUR", x.many(2), 0);
        due("anew: HORSES", x.many(3), 0);
        due("anew: READINGS", x.many(4), 0);
        due("anew: column", x.where(0, 0), 0);
        due("anew: row", x.where(0, 1), 0);
        due("anew: JOINED", x.ofPerson(0, 4), -9);
        due("anew: FRONT", x.ofPerson(0, 5), 0);
        due("TRACE stays", x.trace(), 1);
    }

    private static void people() {
        PantomimeHorses x = Checks.of(EIGHT);
        int[][] wants = {{0, 0, 0, 0}, {0, 1, 1, 1}, {1, 2, 2, 3}, {1, 3, 3, 4}, {2, 4, 0, 2}, {2, 5, 1, 2},
            {0, 6, 2, 6}, {1, 7, 3, 8}};
        for (int p = 0; p < 8; p++) {
            for (int what = 0; what < 4; what++) {
                due("ofPerson(" + p + ", " + what + ")", x.ofPerson(p, what), wants[p][what]);
            }
        }
        x.join(6, 2);
        due("JOINED to", x.ofPerson(6, 4), 2);
        due("JOINED to", x.ofPerson(2, 4), 6);
        due("FRONT", x.ofPerson(6, 5), 1);
        due("FRONT", x.ofPerson(2, 5), 0);
        due("not JOINED", x.ofPerson(3, 4), -9);
        due("not in FRONT", x.ofPerson(3, 5), 0);
        due("no PERSON", x.ofPerson(8, 9), -1);
        due("no PERSON", x.ofPerson(-1, 0), -1);
        due("what 6", x.ofPerson(0, 6), -2);
        due("what -1", x.ofPerson(0, -1), -2);
    }

    private static void whereTheyAre() {
        // 0 goes 3 up, 1 half of 5 to the left; 2 stays.
        PantomimeHorses x = Checks.of("d9;f30;h43;f91");
        x.join(0, 1);
        x.hours(2);
        due("column of the first", x.where(0, 0), -4);
        due("row of the first", x.where(0, 1), -6);
        due("column of the second", x.where(1, 0), -4);
        due("row of the second", x.where(1, 1), -6);
        due("column of who is not JOINED", x.where(2, 0), 0);
        due("what 2", x.where(0, 2), Long.MIN_VALUE);
        due("what -1", x.where(0, -1), Long.MIN_VALUE);
        due("no PERSON", x.where(3, 0), Long.MIN_VALUE);
        due("no PERSON", x.where(-1, 0), Long.MIN_VALUE);
    }

    private static void trainAndBid() {
        PantomimeHorses x = Checks.of("d9;f30;h43");
        due("train", x.train(1, 9), 4);
        due("train, STEP", x.ofPerson(1, 1), 9);
        due("train, STRIDE", x.ofPerson(1, 3), 10);
        due("train 0", x.train(1, 0), 9);
        due("train 10", x.train(1, 10), -2);
        due("train -1", x.train(1, -1), -2);
        due("train nobody", x.train(2, 10), -1);
        due("train, nothing changed", x.ofPerson(1, 1), 0);
        due("bid", x.bid(1, 0), 3);
        due("bid, WILL", x.ofPerson(1, 2), 0);
        due("bid 3", x.bid(1, 3), 0);
        due("bid 4", x.bid(1, 4), -2);
        due("bid -1", x.bid(1, -1), -2);
        due("bid nobody", x.bid(-1, 4), -1);
        due("bid, nothing changed", x.ofPerson(1, 2), 3);
    }

    private static void jars() {
        PantomimeHorses x = Checks.of("d9;f50;h41;o83;f90");
        due("a quarter", x.jar(0, 1), 1);
        due("a quarter, past 0", x.jar(0, 2), 2);
        due("two quarters", x.jar(1, 2), 3);
        due("two quarters, the other way", x.jar(2, 1), 3);
        due("none", x.jar(0, 3), 4);
        due("himself", x.jar(1, 1), -1);
        due("nobody", x.jar(0, 4), -1);
        due("nobody", x.jar(-1, 0), -1);
    }
}
