/** Promises 12 to 15: matches, who would rather, meetings, leads. */
public final class WhoTest {
    private static final Checks CHECKS = new Checks();

    public static void main(String[] args) {
        matches();
        rathers();
        meetings();
        leads();
        CHECKS.end();
    }

    private static void due(String call, long got, long want) {
        CHECKS.due(call, got, want);
    }

    private static void dueRow(String call, PantomimeHorses x, int... row) {
        for (int k = 0; k < 8; k++) {
            due(call + ", " + k, x.match(k), k < row.length ? row[k] : -9);
        }
    }

    private static void matches() {
        PantomimeHorses x = new PantomimeHorses();
        due("no duchy", x.match(0), -3);
        due("k 8 ahead of a duchy", x.match(8), -2);
        Checks.tellDuchy(x, "d5;f00;f50;f10;f60");
        due("JAR of all", x.match(-1), 2);
        dueRow("the least", x, 2, 3, 0, 1);
        due("k -2", x.match(-2), -2);
        due("k 8", x.match(8), -2);
        x.join(0, 1);
        due("JOINED or not", x.match(0), 2);
        Checks.tellDuchy(x, "d5;f00;f00;f00;f00;f00;f00;f00;f00");
        due("all alike", x.match(-1), 0);
        dueRow("the first of all", x, 1, 0, 3, 2, 5, 4, 7, 6);
        Checks.tellDuchy(x, "d5;f00;f00;f00");
        dueRow("nobody is told last", x, 1, 0, -9);
        Checks.tellDuchy(x, "d5;f90;f00;f10");
        due("one is over", x.match(-1), 1);
        dueRow("who jars is over", x, -9, 2, 1);
        Checks.tellDuchy(x, "d5;f00;f20;f10");
        dueRow("of several the first", x, 2, -9, 0);
        // The nearest two alone would leave two who jar by more.
        Checks.tellDuchy(x, "d5;f00;f30;f50;f90");
        due("all together", x.match(-1), 7);
        dueRow("all together", x, 1, 0, 3, 2);
    }

    private static void rathers() {
        PantomimeHorses x = new PantomimeHorses();
        due("no duchy", x.rather(), -3);
        Checks.tellDuchy(x, "d5;f00;f90;f10;f80");
        due("who are not JOINED", x.rather(), 3);
        x.join(0, 1);
        // 2 and 3 are not JOINED (12), but 0 and 2 jar less than 0 and 1 do (5).
        due("one is JOINED", x.rather(), 5);
        x.join(2, 3);
        due("both are JOINED", x.rather(), 5);
        x.part(0);
        x.part(2);
        x.join(0, 2);
        due("two are left", x.rather(), 10);
        x.join(3, 1);
        due("nobody", x.rather(), -9);
        Checks.tellDuchy(x, "d5;f00;f10;f20;f30");
        x.join(0, 1);
        x.join(2, 3);
        due("as much is not less", x.rather(), -9);
        Checks.tellDuchy(x, "d5;f00;f30;f90;f60");
        x.join(0, 2);
        x.join(1, 3);
        due("one of two would not", x.rather(), -9);
        // {1, 2} is 6, {0, 3} is 9: the sets are numbers.
        Checks.tellDuchy(x, "d5;f00;f90;f80;f10");
        x.join(0, 2);
        x.join(3, 1);
        due("the least set", x.rather(), 6);
        Checks.tellDuchy(x, "d5;f00;f00");
        x.join(1, 0);
        due("who are JOINED to each other", x.rather(), -9);
        Checks.tellDuchy(x, "d5;f00;f00;f00;f00;f00;f00;f00;f00");
        for (int p = 0; p < 8; p += 2) {
            x.join(p, p + 1);
        }
        due("nobody of eight", x.rather(), -9);
        x.part(7);
        due("the last two of eight", x.rather(), 192);
    }

    private static void meetings() {
        PantomimeHorses x = Checks.of("d3;f21;f01;f11;f01;f31;f01;f01");
        x.join(0, 1);
        x.join(2, 3);
        due("now", x.meet(0, 2), 0);
        due("himself", x.meet(0, 0), 0);
        due("of one HORSE", x.meet(0, 1), 0);
        due("not JOINED", x.meet(0, 4), -3);
        due("not JOINED", x.meet(4, 0), -3);
        due("nobody", x.meet(7, 4), -1);
        due("nobody", x.meet(4, -1), -1);
        x.hours(2);
        // At 4 and 2, an hour more as before: 6 and 3; NOON: by 1 and 0 an hour; so at 9 they are 9 and 3.
        due("not by then", x.meet(0, 2), -9);
        x.bid(0, 3);
        // 4 and 2; 2 and 3; NOON, then 1 and 3, 0 and 3, -1 and 3; NOON: farther.
        due("past each other", x.meet(0, 2), -9);
        x.train(2, 0);
        due("in an hour", x.meet(2, 1), 1);
        due("nothing is changed", x.many(2), 2);
        due("nothing is changed", x.where(0, 0), 4);
        far();
    }

    private static void far() {
        // NOON 9: from 0 on a HORSE goes 1 an hour by the one, 0 by the other (half of 1 is cut).
        PantomimeHorses x = Checks.of("d9;f11;f03;f01;f01");
        x.join(0, 1);
        x.join(2, 3);
        x.hours(9);
        due("the other is in FRONT", x.ofPerson(1, 5), 1);
        x.train(1, 1);
        // Back by 1 an hour for 9 hours: it is at 0 behind 9.
        due("behind 9", x.meet(3, 0), 9);
        x.train(1, 0);
        x.bid(0, 3);
        x.hours(1);
        // HOUR 10, at 9: 8 hours stand, 9 hours back: behind 17.
        due("behind 17", x.meet(0, 2), 17);
        lastHour();
    }

    private static void lastHour() {
        // One HORSE is brought to column 99, or to 100, then goes back by 1 each HOUR, whoever leads.
        for (int start = 99; start <= 100; start++) {
            PantomimeHorses x = Checks.of("d1;f11;f01;f00;f00");
            x.join(2, 3);
            x.join(0, 1);
            x.train(1, 1);
            for (int h = 0; h < start; h++) {
                x.hours(1);
            }
            due("it went", x.where(0, 0), start);
            x.bid(0, 3);
            x.bid(1, 3);
            due("from " + start, x.meet(0, 2), start == 99 ? 99 : -9);
        }
    }

    private static void leads() {
        PantomimeHorses x = new PantomimeHorses();
        due("nobody", x.leads(0, 0, 0, 0, 0), -1);
        Checks.tellDuchy(x, "d2;f31;f22;f00");
        // By 0 (3, 1) an hour, by 1 (1, 2).
        x.join(0, 1);
        int[] wants = {0, 1, 1, -9, -9, -9, -9, -9};
        due("exact", x.leads(0, 3, 5, 5, -1), 0);
        for (int k = 0; k < 8; k++) {
            due("exact, " + k, x.leads(0, 3, 5, 5, k), wants[k]);
        }
        int[] mirrored = {0, 0, 1};
        for (int k = 0; k < 3; k++) {
            due("of the other, " + k, x.leads(1, 3, 5, 5, k), mirrored[k]);
        }
        // (3, 1) and (1, 2) are as far from (1, 0): the first of the rows.
        due("of several", x.leads(0, 1, 2, 1, -1), 1);
        Checks.tellDuchy(x, "d2;f11;f10;f00");
        x.join(0, 1);
        due("of several the first", x.leads(0, 2, 1, -1, -1), 0);
        due("of several the first", x.leads(0, 2, 1, -1, 0), 0);
        due("of several the first", x.leads(0, 2, 1, -1, 1), 1);
        due("as far by any: he leads", x.leads(0, 8, 99, -99, 7), 0);
        due("far", x.leads(0, 8, 99, -99, -1), 190);
        due("far the other way", x.leads(0, 8, -99, 99, -1), 206);
        x.hours(2);
        due("from where it is", x.leads(0, 1, 1, -1, -1), 1);
        due("NOON is nothing", x.leads(1, 1, 3, 0, 0), 1);
        refusedLeads(x);
    }

    private static void refusedLeads(PantomimeHorses x) {
        due("n 0", x.leads(2, 0, 0, 0, 0), -2);
        due("n 9", x.leads(0, 9, 0, 0, 0), -2);
        due("column 100", x.leads(0, 1, 100, 0, 0), -2);
        due("column -100", x.leads(0, 1, -100, 0, 0), -2);
        due("row 100", x.leads(0, 1, 0, 100, 0), -2);
        due("row -100", x.leads(0, 1, 0, -100, 0), -2);
        due("k -2", x.leads(0, 1, 0, 0, -2), -2);
        due("k 8", x.leads(0, 1, 0, 0, 8), -2);
        due("not JOINED", x.leads(2, 1, 0, 0, 0), -3);
        due("nobody", x.leads(3, 0, 0, 0, 0), -1);
    }
}
