/** Promises 12 to 15 and section 3 of the terms, at their edges: a test of each sentence that names one. */
public final class WhoEdgesTest {
    private static final Checks CHECKS = new Checks();
    private static final Edges EDGES = new Edges(CHECKS, World::made);
    private static final Edges NO_DUCHY = new Edges(CHECKS, World::withoutDuchy);

    public static void main(String[] args) {
        match();
        matchOfFewAndMany();
        firstOfSeveralMatches();
        rather();
        ratherLess();
        leastSet();
        meet();
        meetNowAndLast();
        meetPastNoon();
        leads();
        leadsOfEachLength();
        whoLeads();
        firstOfSeveralLeads();
        leadsToTheCorners();
        CHECKS.end();
    }

    private static void due(String call, long got, long want) {
        CHECKS.due(call, got, want);
    }

    /** Promise 12: "k -1", "0 .. 7", "NONE: nobody, there is no such PERSON. OUTSIDE; STATE: there is no DUCHY". */
    private static void match() {
        EDGES.within("match: k", -1, 7, Edges.OUTSIDE, (x, v) -> x.match(v));
        int[] row = {1, 0, 4, 5, 2, 3, Edges.NONE, Edges.NONE};
        EDGES.keeps("JAR of all", 5, x -> x.match(-1));
        for (int v = 0; v < 8; v++) {
            int k = v;
            EDGES.keeps("whom " + k + " is with", row[k], x -> x.match(k));
            NO_DUCHY.keeps("no DUCHY, " + k, Edges.STATE, x -> x.match(k));
        }
        NO_DUCHY.keeps("no DUCHY, JAR", Edges.STATE, x -> x.match(-1));
        NO_DUCHY.keeps("OUTSIDE, STATE: below", Edges.OUTSIDE, x -> x.match(-2));
        NO_DUCHY.keeps("OUTSIDE, STATE: above", Edges.OUTSIDE, x -> x.match(8));
    }

    private static void dueMatch(String text, int jar, int... row) {
        PantomimeHorses x = Checks.of(text);
        due(text + ", JAR", x.match(-1), jar);
        for (int k = 0; k < 8; k++) {
            due(text + ", " + k, x.match(k), k < row.length ? row[k] : Edges.NONE);
        }
    }

    /** "all PEOPLE (JOINED or not) in twos, as many as can be": of two, an odd number, eight; however they JAR. */
    private static void matchOfFewAndMany() {
        dueMatch("d1;f00;h92", 12, 1, 0);
        dueMatch("d1;f00;f00", 0, 1, 0);
        dueMatch("d1;f00;f90;f52", 6, Edges.NONE, 2, 1);
        dueMatch("d1;f00;f20;f40;f60;f90", 4, 1, 0, 3, 2, Edges.NONE);
        dueMatch("d1;f90;f00;f20;f40;f60", 4, Edges.NONE, 2, 1, 4, 3);
        dueMatch("d1;f00;f30;f10;f40;f20;f50;f92", 3, 2, 4, 0, 5, 1, 3, Edges.NONE);
        dueMatch("d1;f00;f10;f20;f30;f40;f50;f60;f70", 4, 1, 0, 3, 2, 5, 4, 7, 6);
        dueMatch("d1;f00;f20;f40;f60;f70;f50;f30;f10", 4, 7, 6, 5, 4, 3, 2, 1, 0);
        PantomimeHorses x = Checks.of("d1;f00;f50;f10;f60");
        x.join(0, 1);
        x.join(2, 3);
        due("JOINED, JAR", x.match(-1), 2);
        due("JOINED", x.match(0), 2);
        x.part(0);
        due("one HORSE", x.match(0), 2);
        x.train(0, 5);
        due("as they step now", x.match(0), 1);
    }

    /** "of several the first as a row (.. none is told as 9)". */
    private static void firstOfSeveralMatches() {
        dueMatch("d1;f00;f00;f00", 0, 1, 0, Edges.NONE);
        dueMatch("d1;f10;f00;f20", 1, 1, 0, Edges.NONE);
        dueMatch("d1;f00;f20;f10", 1, 2, Edges.NONE, 0);
        dueMatch("d1;f00;f00;f00;f00", 0, 1, 0, 3, 2);
        dueMatch("d1;f00;f90;f00;f90;f00;f90", 9, 1, 0, 4, 5, 2, 3);
        dueMatch("d1;f00;f00;f00;f00;f00", 0, 1, 0, 3, 2, Edges.NONE);
        dueMatch("d1;f00;f00;f40;f30;f50", 1, 1, 0, 3, 2, Edges.NONE);
        dueMatch("d1;f00;f00;f30;f50;f40", 1, 1, 0, 4, Edges.NONE, 2);
        dueMatch("d1;f00;f00;f00;f00;f00;f00;f00;f00", 0, 1, 0, 3, 2, 5, 4, 7, 6);
    }

    /** Promise 13: "RATHER, as a set; NONE. STATE: there is no DUCHY". */
    private static void rather() {
        // 2 and 4 JAR by 3, as 2 does with whom he is JOINED to; 3 and 4 JAR by 2, which is less.
        EDGES.keeps("3 and 4", 8 | 16, x -> x.rather());
        NO_DUCHY.keeps("no DUCHY", Edges.STATE, x -> x.rather());
        PantomimeHorses x = Checks.of("d1;f00;h92");
        due("two of two", x.rather(), 3);
        x.join(1, 0);
        due("who are JOINED to each other", x.rather(), Edges.NONE);
        x.part(0);
        due("who are PARTED", x.rather(), 3);
    }

    /** "each of whom is not JOINED, or would JAR less with the other one": as much is not less, and each would. */
    private static void ratherLess() {
        // 0 is JOINED to 1, by JAR 4; 2 is not JOINED.
        PantomimeHorses x = Checks.of("d1;f00;f40;f90");
        x.join(0, 1);
        due("by more", x.rather(), Edges.NONE);
        x.train(2, 8);
        due("by as much", x.rather(), Edges.NONE);
        x.train(2, 7);
        due("by less", x.rather(), 2 | 4);
        // Of two HORSES: 1 would rather 2, but is it so the other way?
        PantomimeHorses y = Checks.of("d1;f00;f40;f60;f70");
        y.join(0, 1);
        y.join(2, 3);
        due("2 would not", y.rather(), Edges.NONE);
        y.train(3, 8);
        due("2 would as much", y.rather(), Edges.NONE);
        y.train(3, 9);
        due("2 would", y.rather(), 2 | 4);
        y.train(0, 2);
        due("1 would as much", y.rather(), Edges.NONE);
    }

    /** "of several the least set": as bits, by the higher one of the two. */
    private static void leastSet() {
        PantomimeHorses x = Checks.of("d1;f00;f00;f00;f00;f00;f00;f00;f00");
        due("all", x.rather(), 3);
        x.join(0, 1);
        due("but 0 and 1", x.rather(), 4 | 8);
        x.join(7, 2);
        due("but 2 and 7", x.rather(), 8 | 16);
        x.join(3, 6);
        due("the last two", x.rather(), 16 | 32);
        x.join(4, 5);
        due("nobody", x.rather(), Edges.NONE);
        x.part(7);
        due("2 and 7", x.rather(), 4 | 128);
        // 0 and 3 (9) would, and 1 and 2 (6) would.
        PantomimeHorses y = Checks.of("d1;f00;f90;f90;f00");
        y.join(0, 1);
        y.join(2, 3);
        due("1 and 2 are less than 0 and 3", y.rather(), 6);
        y.part(2);
        due("one HORSE", y.rather(), 6);
    }

    /** Promise 14: "UNKNOWN: either; STATE: either is not JOINED". */
    private static void meet() {
        EDGES.within("meet: a", 0, 5, Edges.UNKNOWN, (x, v) -> x.meet(v, 0));
        EDGES.within("meet: b", 0, 5, Edges.UNKNOWN, (x, v) -> x.meet(0, v));
        EDGES.keeps("the first is not JOINED", Edges.STATE, x -> x.meet(4, 0));
        EDGES.keeps("the second is not JOINED", Edges.STATE, x -> x.meet(0, 5));
        EDGES.keeps("neither is", Edges.STATE, x -> x.meet(4, 5));
        EDGES.keeps("the same, not JOINED", Edges.STATE, x -> x.meet(4, 4));
        EDGES.keeps("UNKNOWN, STATE", Edges.UNKNOWN, x -> x.meet(6, 4));
        EDGES.keeps("STATE, UNKNOWN", Edges.UNKNOWN, x -> x.meet(4, -1));
        EDGES.keeps("both nobody", Edges.UNKNOWN, x -> x.meet(6, 6));
        EDGES.keeps("the same", 0, x -> x.meet(0, 0));
        EDGES.keeps("of one HORSE", 0, x -> x.meet(3, 2));
        EDGES.keeps("not by then", Edges.NONE, x -> x.meet(0, 3));
    }

    /** A HORSE that is at a column, and comes to column 0 by 1 an HOUR, whoever is in FRONT. */
    private static PantomimeHorses comingFrom(int column, int noon) {
        PantomimeHorses x = Checks.of("d" + noon + ";f11;f11;f00;f00");
        x.join(2, 3);
        x.join(0, 1);
        for (int gone = 0; gone < column; gone += 50) {
            x.hours(Math.min(50, column - gone));
        }
        due("it went", x.where(1, 0), column);
        x.bid(0, 3);
        x.bid(1, 3);
        return x;
    }

    /** "behind how many HOURS (0 .. 99 ..)": now, behind 1, 98, 99; "NONE: not by then": 100. */
    private static void meetNowAndLast() {
        for (int column : new int[] {0, 1, 2, 98, 99, 100, 101}) {
            for (int noon = 1; noon <= 9; noon++) {
                PantomimeHorses x = comingFrom(column, noon);
                int want = column <= 99 ? column : Edges.NONE;
                due("from " + column, x.meet(0, 2), want);
                due("from " + column + ", the other way", x.meet(3, 1), want);
                due("nothing is changed", x.where(0, 0), column);
                due("nothing is changed", x.many(2), column);
            }
        }
    }

    /** "nothing else being done": but NOONS are, and the first time is told. */
    private static void meetPastNoon() {
        // 0 goes 2 to the right, 1 stands; NOON 3: at 0, 2, 4, 6, then by 1 in FRONT half of it: 7, 8, 9, 11 ..
        PantomimeHorses x = Checks.of("d3;f21;f00;f12;f00");
        x.join(0, 1);
        x.hours(3);
        x.part(0);
        x.join(2, 3);
        due("they stand apart", x.where(0, 0), 6);
        x.join(1, 0);
        x.bid(0, 3);
        x.bid(2, 0);
        // 1 in FRONT: 5, 4, 3 by HOUR 6, then 0: 1, -1, -3. The other one stays in column 0.
        due("past each other", x.meet(0, 2), Edges.NONE);
        x.bid(2, 1);
        // The other one: 1, 2, 3 by HOUR 6.
        due("at NOON", x.meet(0, 2), 3);
        due("by those behind", x.meet(3, 1), 3);
        PantomimeHorses y = Checks.of("d1;f11;f00;f00;f00");
        y.join(0, 1);
        y.join(2, 3);
        due("the first time of several", y.meet(0, 2), 0);
        y.hours(1);
        y.bid(0, 0);
        y.part(2);
        y.join(3, 2);
        due("neither column nor row", y.meet(0, 2), Edges.NONE);
        y.bid(2, 1);
        y.train(2, 1);
        // It comes to column 1 behind 2 HOURS, being behind at first; the other one is in row -1 by then.
        due("one column alone", y.meet(0, 2), Edges.NONE);
        y.bid(0, 1);
        due("one row alone", y.meet(0, 2), Edges.NONE);
    }

    /** Promise 15: "n HOURS (1 .. 8)", "(-99 .. 99)", k -1, 0 .. 7. "UNKNOWN; OUTSIDE; STATE: he is not JOINED". */
    private static void leads() {
        EDGES.within("leads: p", 0, 5, Edges.UNKNOWN, (x, v) -> x.leads(v, 1, 0, 0, 0));
        EDGES.within("leads: n", 1, 8, Edges.OUTSIDE, (x, v) -> x.leads(0, v, 0, 0, 0));
        EDGES.within("leads: column", -99, 99, Edges.OUTSIDE, (x, v) -> x.leads(0, 1, v, 0, 0));
        EDGES.within("leads: row", -99, 99, Edges.OUTSIDE, (x, v) -> x.leads(0, 1, 0, v, 0));
        EDGES.within("leads: k", -1, 7, Edges.OUTSIDE, (x, v) -> x.leads(0, 1, 0, 0, v));
        EDGES.keeps("not JOINED", Edges.STATE, x -> x.leads(4, 1, 0, 0, 0));
        EDGES.keeps("not JOINED, the last", Edges.STATE, x -> x.leads(5, 8, 99, 99, 7));
        EDGES.keeps("UNKNOWN, OUTSIDE n", Edges.UNKNOWN, x -> x.leads(6, 0, 0, 0, 0));
        EDGES.keeps("UNKNOWN, OUTSIDE column", Edges.UNKNOWN, x -> x.leads(-1, 1, 100, 0, 0));
        EDGES.keeps("UNKNOWN, OUTSIDE row", Edges.UNKNOWN, x -> x.leads(6, 1, 0, -100, 0));
        EDGES.keeps("UNKNOWN, OUTSIDE k", Edges.UNKNOWN, x -> x.leads(-1, 1, 0, 0, 8));
        EDGES.keeps("OUTSIDE n, STATE", Edges.OUTSIDE, x -> x.leads(4, 9, 0, 0, 0));
        EDGES.keeps("OUTSIDE column, STATE", Edges.OUTSIDE, x -> x.leads(4, 1, -100, 0, 0));
        EDGES.keeps("OUTSIDE row, STATE", Edges.OUTSIDE, x -> x.leads(4, 1, 0, 100, 0));
        EDGES.keeps("OUTSIDE k, STATE", Edges.OUTSIDE, x -> x.leads(4, 1, 0, 0, -2));
        EDGES.keeps("how far", 6, x -> x.leads(0, 1, 15, 0, -1));
        EDGES.keeps("he", 0, x -> x.leads(0, 1, 15, 0, 0));
        EDGES.keeps("whom he is JOINED to", 1, x -> x.leads(0, 1, 10, 9, 0));
    }

    /** "NONE: there are not so many": of each n each k. */
    private static void leadsOfEachLength() {
        // By 0 (2, 0) and half of 2 down: (2, 1); by 1 (1, 2): m of n HOURS by 1 are 2 n - m columns, n + m rows.
        for (int n = 1; n <= 8; n++) {
            for (int m = 0; m <= n; m++) {
                PantomimeHorses y = Checks.of("d" + n + ";f21;f22");
                y.join(0, 1);
                due("how far", y.leads(0, n, 2 * n - m, n + m, -1), 0);
                due("how far, of the other", y.leads(1, n, 2 * n - m, n + m, -1), 0);
                for (int k = 0; k < 8; k++) {
                    String call = m + " of " + n + ", HOUR " + k;
                    int want = k < n - m ? 0 : 1;
                    int other = k < m ? 0 : 1;
                    due(call, y.leads(0, n, 2 * n - m, n + m, k), k < n ? want : Edges.NONE);
                    due(call + ", of the other", y.leads(1, n, 2 * n - m, n + m, k), k < n ? other : Edges.NONE);
                }
            }
        }
    }

    /** "whatever NOON it is", and whoever is in FRONT now. */
    private static void whoLeads() {
        PantomimeHorses x = Checks.of("d1;f31;f32");
        x.join(1, 0);
        due("he is behind, and leads", x.leads(0, 8, 24, 8, -1), 0);
        due("he is behind, and leads", x.leads(0, 8, 24, 8, 7), 0);
        due("he is in FRONT, and does not", x.leads(1, 8, 24, 8, -1), 0);
        due("he is in FRONT, and does not", x.leads(1, 8, 24, 8, 7), 1);
        x.hours(1);
        due("from where it is", x.where(0, 0) * 10 + x.where(0, 1), 13);
        due("from where it is", x.leads(0, 2, 7, 5, -1), 0);
        due("nothing is changed", x.ofPerson(0, 5), 1);
    }

    /** "the row of n such ..: of several the first". */
    private static void firstOfSeveralLeads() {
        PantomimeHorses x = Checks.of("d1;f00;f00");
        x.join(0, 1);
        for (int k = 0; k < 8; k++) {
            due("all are as far", x.leads(0, 8, 3, -4, k), 0);
        }
        due("all are as far", x.leads(0, 8, 3, -4, -1), 7);
        // By the one (1, 0), by the other (0, -1): from (9, -9) all are as far, from (2, -2) some four of four.
        PantomimeHorses y = Checks.of("d1;f11;f10");
        y.join(0, 1);
        for (int k = 0; k < 4; k++) {
            due("beyond all", y.leads(0, 4, 9, -9, k), 0);
            due("two and two", y.leads(0, 4, 2, -2, k), k < 2 ? 0 : 1);
            due("all by him is as near", y.leads(0, 4, 4, -4, k), 0);
            due("all by the other", y.leads(0, 4, -1, -5, k), 1);
        }
        due("beyond all", y.leads(0, 4, 9, -9, -1), 14);
        due("all by the other", y.leads(0, 4, -1, -5, -1), 2);
    }

    /** "to a column, a row (-99 .. 99)": how far it is to each corner. */
    private static void leadsToTheCorners() {
        PantomimeHorses x = Checks.of("d1;f11;f11");
        x.join(0, 1);
        due("right, down", x.leads(0, 8, 99, 99, -1), 91 + 99);
        due("right, up", x.leads(0, 8, 99, -99, -1), 91 + 99);
        due("left, down", x.leads(0, 8, -99, 99, -1), 107 + 99);
        due("left, up", x.leads(0, 8, -99, -99, -1), 107 + 99);
        due("one HOUR", x.leads(0, 1, -99, -99, -1), 100 + 99);
    }
}
