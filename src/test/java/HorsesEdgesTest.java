/** Promises 8 to 11 and section 2 of the terms, at their edges: a test of each sentence that names one. */
public final class HorsesEdgesTest {
    private static final Checks CHECKS = new Checks();
    private static final Edges EDGES = new Edges(CHECKS, World::made);
    private static final Edges NO_DUCHY = new Edges(CHECKS, World::withoutDuchy);
    private static final int[] WHATS = {0, 1, 2, 3, 4, 10, 11, 12, 13, 14, 15, 16, 17};

    public static void main(String[] args) {
        join();
        joinWhereTheFirstIs();
        joinOfAll();
        part();
        partWhereItWas();
        hours();
        noons();
        allOfEight();
        halvesAreCut();
        farHours();
        sheetAndLaneOfDay();
        pairsOfDay();
        whatOfDay();
        castAndNullOfDay();
        indexOfDay();
        dayWithoutDuchy();
        secondsOfDay();
        hoursOfDay();
        firstsOfDay();
        whatComesFirstOfDay();
        pairByPair();
        emptyDay();
        dayChangesNothing();
        firstWrongs();
        firstWrongAtTheEnds();
        dayFromNow();
        crowdedHours();
        whomOfDay();
        CHECKS.end();
    }

    private static void due(String call, long got, long want) {
        CHECKS.due(call, got, want);
    }

    /** Promise 8: "UNKNOWN: either, both the same; STATE: either is JOINED". */
    private static void join() {
        EDGES.within("join: a", 0, 5, Edges.UNKNOWN, (x, v) -> x.join(v, 4));
        EDGES.within("join: b", 0, 5, Edges.UNKNOWN, (x, v) -> x.join(4, v));
        EDGES.keeps("both the same", Edges.UNKNOWN, x -> x.join(4, 4));
        EDGES.keeps("both nobody", Edges.UNKNOWN, x -> x.join(6, 7));
        EDGES.keeps("the first is in FRONT", Edges.STATE, x -> x.join(0, 4));
        EDGES.keeps("the first is behind", Edges.STATE, x -> x.join(1, 4));
        EDGES.keeps("the second is in FRONT", Edges.STATE, x -> x.join(4, 3));
        EDGES.keeps("the second is behind", Edges.STATE, x -> x.join(4, 2));
        EDGES.keeps("of two HORSES", Edges.STATE, x -> x.join(0, 3));
        EDGES.keeps("of one HORSE", Edges.STATE, x -> x.join(0, 1));
        EDGES.keeps("of one HORSE, the other way", Edges.STATE, x -> x.join(1, 0));
        EDGES.keeps("UNKNOWN, STATE: the same", Edges.UNKNOWN, x -> x.join(0, 0));
        EDGES.keeps("UNKNOWN, STATE: the second", Edges.UNKNOWN, x -> x.join(0, 6));
        EDGES.keeps("UNKNOWN, STATE: the first", Edges.UNKNOWN, x -> x.join(-1, 2));
        EDGES.answers("neither is", 3, x -> x.join(5, 4));
    }

    /** "they are a HORSE, where he is", who is in FRONT. */
    private static void joinWhereTheFirstIs() {
        PantomimeHorses x = World.made();
        x.part(0);
        due("JOINED again", x.join(4, 1), 2);
        due("fault() is kept", x.fault(), World.FAULT);
        due("the second comes, column", x.where(1, 0), 0);
        due("the second comes, row", x.where(1, 1), 0);
        due("the first stays", x.where(4, 0), 0);
        due("the first is in FRONT", x.ofPerson(4, 5), 1);
        due("the second is behind", x.ofPerson(1, 5), 0);
        due("he who was PARTED stays", x.where(0, 0), 10);
        x.part(1);
        due("JOINED the other way", x.join(0, 4), 2);
        due("the second comes, column", x.where(4, 0), 10);
        due("the second comes, row", x.where(4, 1), 4);
    }

    /** "how many HORSES there are": of two one, of three one, of eight four. */
    private static void joinOfAll() {
        PantomimeHorses two = Checks.of("d1;f11;f11");
        due("the HORSE of two", two.join(1, 0), 1);
        due("no more", two.join(0, 1), Edges.STATE);
        PantomimeHorses three = Checks.of("d1;f11;f11;f11");
        due("the HORSE of three", three.join(2, 0), 1);
        due("no more", three.join(1, 2), Edges.STATE);
        due("not with a fourth", three.join(1, 3), Edges.UNKNOWN);
        PantomimeHorses eight = Checks.of("d1;f11;f11;f11;f11;f11;f11;f11;f11");
        for (int p = 0; p < 4; p++) {
            due("HORSES of eight", eight.join(7 - p, p), p + 1);
        }
        due("not with a ninth", eight.join(7, 8), Edges.UNKNOWN);
        for (int p = 0; p < 4; p++) {
            due("HORSES that are left", eight.part(p), 3 - p);
        }
    }

    /** Promise 9: "UNKNOWN; STATE: he is not JOINED". */
    private static void part() {
        EDGES.within("part: p", 0, 5, Edges.UNKNOWN, (x, v) -> x.part(v));
        EDGES.keeps("not JOINED", Edges.STATE, x -> x.part(4));
        EDGES.keeps("not JOINED, the last", Edges.STATE, x -> x.part(5));
        EDGES.answers("in FRONT", 1, x -> x.part(0));
        EDGES.answers("behind", 1, x -> x.part(2));
        EDGES.answers("not JOINED any more", Edges.STATE, x -> x.part(0) + x.part(1) - 1);
        EDGES.answers("the last HORSE", 0, x -> x.part(0) + x.part(3) - 1);
    }

    /** "neither is JOINED any more, both are where it was." */
    private static void partWhereItWas() {
        PantomimeHorses x = World.made();
        x.part(2);
        due("fault() is kept", x.fault(), World.FAULT);
        for (int p = 2; p <= 3; p++) {
            due("JOINED to nobody", x.ofPerson(p, 4), Edges.NONE);
            due("not in FRONT", x.ofPerson(p, 5), 0);
            due("the column stays", x.where(p, 0), -4);
            due("the row stays", x.where(p, 1), -4);
        }
        due("the other HORSE stays", x.ofPerson(0, 4), 1);
        x.hours(2);
        due("who is PARTED goes nowhere", x.where(3, 0), -4);
        due("who is PARTED is not CHANGED", x.ofPerson(2, 5) + x.ofPerson(3, 5), 0);
    }

    /** Promise 10: "n HOURS (1 .. 99)", "OUTSIDE; STATE: there is no DUCHY". */
    private static void hours() {
        EDGES.within("hours: n", 1, 99, Edges.OUTSIDE, (x, v) -> x.hours(v));
        EDGES.answers("one", 3, x -> x.hours(1));
        EDGES.answers("99", 101, x -> x.hours(99));
        NO_DUCHY.keeps("one, no DUCHY", Edges.STATE, x -> x.hours(1));
        NO_DUCHY.keeps("99, no DUCHY", Edges.STATE, x -> x.hours(99));
        NO_DUCHY.keeps("OUTSIDE, STATE: 0", Edges.OUTSIDE, x -> x.hours(0));
        NO_DUCHY.keeps("OUTSIDE, STATE: 100", Edges.OUTSIDE, x -> x.hours(100));
        PantomimeHorses x = World.made();
        x.hours(1);
        due("fault() is kept", x.fault(), World.FAULT);
    }

    /** "if the number of the HOUR then is a multiple of NOON, all HORSES CHANGE": about two NOONS, each 1 .. 9. */
    private static void noons() {
        for (int noon = 1; noon <= 9; noon++) {
            for (int hours = 1; hours <= 2 * noon + 1; hours++) {
                PantomimeHorses x = Checks.of("d" + noon + ";f61;f01;f00;f00;f00");
                x.join(0, 1);
                x.join(3, 2);
                due("HOURS", x.hours(hours), hours);
                int changes = hours / noon;
                due("in FRONT, NOON " + noon + ", HOUR " + hours, x.ofPerson(changes % 2, 5), 1);
                due("behind, NOON " + noon + ", HOUR " + hours, x.ofPerson(1 - changes % 2, 5), 0);
                due("all of them", x.ofPerson(3 - changes % 2, 5), 1);
                due("who is not JOINED", x.ofPerson(4, 5), 0);
                // By the one 6 an hour, by the other half of that.
                int byOther = Math.min(Math.max(hours - noon, 0), noon);
                due("where it is", x.where(0, 0), 6 * (hours - byOther) + 3 * byOther);
                due("where the other is", x.where(1, 0), x.where(0, 0));
            }
        }
    }

    /** "each HORSE goes its WAY", "all HORSES CHANGE": four of them, past NOON, in what is and in a day. */
    private static void allOfEight() {
        String text = "d2;f11;f00;f21;f00;f31;f00;f00;f41";
        PantomimeHorses x = Checks.of(text);
        PantomimeHorses y = Checks.of(text);
        for (int p = 0; p < 8; p += 2) {
            x.join(p, p + 1);
            y.join(p, p + 1);
        }
        x.hours(3);
        // By 1, 2, 3 and 2 (half of 4) until NOON, then by 0, 1, 1 and 4.
        int[] columns = {2, 5, 7, 8};
        for (int p = 0; p < 8; p++) {
            due("where " + p + " is", x.where(p, 0), columns[p / 2]);
            due(p + " is CHANGED", x.ofPerson(p, 5), p % 2);
            due("whom " + p + " is JOINED to in a day", Checks.day(y, 10 + p, 3, 10), p % 2 == 0 ? p + 1 : p - 1);
        }
        due("in FRONT in a day", Checks.day(y, 0, 3, 10), 2 | 8 | 32 | 128);
        due("HORSES in a day", Checks.day(y, 2, 3, 10), 4);
        // Behind HOUR 1 the second and the fourth are both at 2, behind HOUR 2 both at 4.
        due("at one place in a day", Checks.day(y, 3, 3, 10), 2);
        due("how far in a day", Checks.day(y, 4, 3, 10), 2 * (2 + 5 + 7 + 8));
        // Fewer PEOPLE: those who were JOINED are no HORSES any more.
        Checks.tellDuchy(x, "d1;f11;f00");
        due("fewer: at one place", Checks.day(x, 3, 0, 1, 9, 10), 0);
        due("fewer: how far", Checks.day(x, 4, 0, 1, 1, 10), 2);
    }

    /** "half of the other one's STRIDE": "Quotients are cut", each WILL of both. */
    private static void halvesAreCut() {
        int[] columns = {0, 1, 0, -1};
        int[] rows = {-1, 0, 1, 0};
        for (int w = 0; w < 16; w++) {
            PantomimeHorses x = Checks.of("d9;f9" + w / 4 + ";h8" + w % 4);
            x.join(0, 1);
            x.hours(1);
            due("9 and half of 9, column", x.where(1, 0), 9 * columns[w / 4] + 4 * columns[w % 4]);
            due("9 and half of 9, row", x.where(1, 1), 9 * rows[w / 4] + 4 * rows[w % 4]);
        }
        PantomimeHorses x = Checks.of("d9;f01;o31;h00;h91");
        x.join(0, 1);
        x.join(2, 3);
        x.hours(1);
        due("half of 1 is 0", x.where(0, 0), 0);
        due("half of 10 is 5", x.where(2, 0), 5);
        due("1 up", x.where(2, 1), -1);
    }

    /** "at most 512 calls": all HOURS that there can be. */
    private static void farHours() {
        PantomimeHorses x = Checks.of("d9;h91;h91");
        x.join(0, 1);
        for (int call = 1; call <= 480; call++) {
            due("the HOUR", x.hours(99), 99 * call);
        }
        due("the column", x.where(1, 0), 15L * 99 * 480);
        Checks.fill(x, 0, 0);
        due("how far both are", x.day(0, 0, 0, 0, 4), 2L * 15 * 99 * 480);
        due("how far it is from -99", x.leads(0, 8, -99, -99, -1), 15L * 99 * 480 + 8 * 15 + 99 + 99);
    }

    /** Promise 11: "UNKNOWN: SHEET; OUTSIDE: lane". */
    private static void sheetAndLaneOfDay() {
        EDGES.withinOfFaults("day: sheet", 0, 3, Edges.UNKNOWN, (x, v) -> x.day(v, 1, 0, 4, 0));
        EDGES.withinOfFaults("day: lane", 0, 2, Edges.OUTSIDE, (x, v) -> x.day(1, v, 0, 4, 0));
        for (int k = 0; k < 4; k++) {
            for (int lane = 0; lane < 3; lane++) {
                PantomimeHorses x = Checks.of(World.TEXT);
                Checks.fill(x, k, lane, 9, 9, 5, 4, 9, 9);
                due("a day of sheet " + k + ", lane " + lane, x.day(k, lane, 2, 1, 0), 32);
            }
        }
    }

    private static PantomimeHorses withLongRow() {
        PantomimeHorses x = World.made();
        x.sheet(3, 0, 60);
        for (int pair = 0; pair < 30; pair++) {
            x.put(3, 2 * pair + 1, 10);
        }
        return x;
    }

    /** "n (0 .. 20)", though there are cells for more. */
    private static void pairsOfDay() {
        Edges wide = new Edges(CHECKS, HorsesEdgesTest::withLongRow);
        wide.withinOfFaults("day: n", 0, 20, Edges.OUTSIDE, (x, v) -> x.day(3, 0, 0, v, 0));
        wide.leaves("no pair", 9, 0, x -> x.day(3, 0, 0, 0, 0));
        wide.leaves("20 pairs", 9, 0, x -> x.day(3, 0, 0, 20, 0));
        wide.leaves("20 pairs, to the last cell", 9, 0, x -> x.day(3, 0, 20, 20, 0));
        wide.faults("20 pairs, beyond it", Edges.INDEX, x -> x.day(3, 0, 21, 20, 0));
    }

    /** "what (0 .. 4, 10 .. 17)". */
    private static void whatOfDay() {
        EDGES.withinOfFaults("day: what", 0, 4, Edges.OUTSIDE, (x, v) -> x.day(1, 1, 0, 4, v));
        EDGES.withinOfFaults("day: what", 10, 17, Edges.OUTSIDE, (x, v) -> x.day(1, 1, 0, 4, v));
        for (int w = 5; w < 10; w++) {
            int what = w;
            EDGES.refuses("day: what " + what, Edges.OUTSIDE, x -> x.day(1, 1, 0, 4, what));
        }
    }

    /** "FAULTS CAST, NULL": nothing is no CAST. */
    private static void castAndNullOfDay() {
        EDGES.faults("shorts as bytes", Edges.CAST, x -> x.day(1, 0, 0, 4, 0));
        EDGES.faults("shorts as ints", Edges.CAST, x -> x.day(1, 2, 0, 4, 0));
        EDGES.faults("bytes as ints, no pair", Edges.CAST, x -> x.day(0, 2, 0, 0, 0));
        EDGES.faults("ints as bytes, no pair", Edges.CAST, x -> x.day(2, 0, 0, 0, 0));
        Edges lost = new Edges(CHECKS, World::withALostSheet);
        for (int l = 0; l < 3; l++) {
            int lane = l;
            EDGES.faults("nothing, lane " + lane, Edges.NULL, x -> x.day(3, lane, 0, 0, 0));
            lost.faults("nothing any more, lane " + lane, Edges.NULL, x -> x.day(2, lane, 0, 0, 0));
        }
    }

    /** "INDEX": of 2 n cells from i on, none of them too. */
    private static void indexOfDay() {
        EDGES.leaves("all cells", 4 | 32, 0, x -> x.day(1, 1, 0, 4, 0));
        EDGES.faults("a pair too many", Edges.INDEX, x -> x.day(1, 1, 0, 5, 0));
        EDGES.faults("from 1 on: half a pair too many", Edges.INDEX, x -> x.day(1, 1, 1, 4, 0));
        EDGES.faults("from -1 on", Edges.INDEX, x -> x.day(1, 1, -1, 4, 0));
        EDGES.faults("from -2 on", Edges.INDEX, x -> x.day(1, 1, -2, 1, 0));
        EDGES.leaves("the last pair", 9, 0, x -> x.day(1, 1, 6, 1, 0));
        EDGES.faults("half a pair", Edges.INDEX, x -> x.day(1, 1, 7, 1, 0));
        EDGES.faults("behind the last pair", Edges.INDEX, x -> x.day(1, 1, 8, 1, 0));
        EDGES.leaves("none, from the end on", 9, 0, x -> x.day(1, 1, 8, 0, 0));
        EDGES.faults("none, from behind the end on", Edges.INDEX, x -> x.day(1, 1, 9, 0, 0));
        EDGES.faults("none, from -1 on", Edges.INDEX, x -> x.day(1, 1, -1, 0, 0));
        EDGES.faults("from the most on", Edges.INDEX, x -> x.day(1, 1, Integer.MAX_VALUE, 20, 0));
        EDGES.faults("none, from the most on", Edges.INDEX, x -> x.day(1, 1, Integer.MAX_VALUE, 0, 0));
        EDGES.faults("from the least on", Edges.INDEX, x -> x.day(1, 1, Integer.MIN_VALUE, 20, 0));
        EDGES.faults("none, from the least on", Edges.INDEX, x -> x.day(1, 1, Integer.MIN_VALUE, 0, 0));
    }

    /** "STATE: there is no DUCHY": behind the FAULTS, ahead of what the pairs are. */
    private static void dayWithoutDuchy() {
        NO_DUCHY.refuses("no DUCHY", Edges.STATE, x -> x.day(1, 1, 0, 4, 0));
        NO_DUCHY.refuses("no DUCHY, no pair", Edges.STATE, x -> x.day(1, 1, 0, 0, 1));
        NO_DUCHY.refuses("STATE, a pair that is OUTSIDE", Edges.STATE, x -> x.day(2, 2, 0, 1, 0));
        NO_DUCHY.refuses("STATE, a PERSON who is UNKNOWN", Edges.STATE, x -> x.day(1, 1, 6, 1, 0));
        NO_DUCHY.refuses("UNKNOWN, STATE", Edges.UNKNOWN, x -> x.day(4, 1, 0, 0, 0));
        NO_DUCHY.refuses("OUTSIDE, STATE", Edges.OUTSIDE, x -> x.day(1, 1, 0, 21, 0));
        NO_DUCHY.faults("CAST, STATE", Edges.CAST, x -> x.day(1, 0, 0, 0, 0));
        NO_DUCHY.faults("NULL, STATE", Edges.NULL, x -> x.day(3, 0, 0, 0, 0));
        NO_DUCHY.faults("INDEX, STATE", Edges.INDEX, x -> x.day(1, 1, 0, 5, 0));
    }

    private static void dueDay(String call, long want, int what, int... cells) {
        PantomimeHorses x = World.made();
        Checks.fill(x, 3, 2, cells);
        due(call, x.day(3, 2, 0, cells.length / 2, what), want);
        due(call + ", fault()", x.fault(), 0);
    }

    /** "OUTSIDE: the second is none of 0 .. 7, 10, 11, 20 .. 23". */
    private static void secondsOfDay() {
        for (int second = -3; second <= 30; second++) {
            boolean is = second >= 0 && second <= 7 || second == 10 || second == 11 || second >= 20 && second <= 23;
            // PERSON 4 is not JOINED: each act can be but to be JOINED to who is, to himself, to nobody, or PARTED.
            boolean can = second == 5 || second == 10 || second >= 20;
            dueDay("second " + second, !is ? Edges.OUTSIDE : can ? Edges.NONE : 0, 1, 4, second);
        }
        for (int second : new int[] {256, 256 + 10, 65536 + 5, -250, Integer.MIN_VALUE, Integer.MAX_VALUE}) {
            dueDay("second " + second, Edges.OUTSIDE, 1, 4, second);
        }
        EDGES.refuses("it changes nothing", Edges.OUTSIDE, x -> x.day(2, 2, 0, 1, 0));
    }

    /** "0 .. 9 and 10: so many HOURS", "OUTSIDE: it is 10 and the first is not 0 .. 9". */
    private static void hoursOfDay() {
        for (int hours = 0; hours <= 9; hours++) {
            PantomimeHorses x = World.made();
            x.hours(1);
            long column = x.where(0, 0);
            Checks.fill(x, 3, 0, hours, 10);
            int far = x.day(3, 0, 0, 1, 4);
            for (int h = 0; h < hours; h++) {
                x.hours(1);
            }
            long all = 0;
            for (int p = 0; p < 6; p++) {
                all += Math.abs(x.where(p, 0)) + Math.abs(x.where(p, 1));
            }
            due(hours + " HOURS", far, all);
            due(hours + " HOURS are some", x.where(0, 0) == column ? 1 : 0, hours == 0 ? 1 : 0);
        }
        for (int hours : new int[] {-1, 10, 256, Integer.MIN_VALUE, Integer.MAX_VALUE}) {
            dueDay(hours + " HOURS", Edges.OUTSIDE, 0, hours, 10);
        }
        dueDay("HOURS are no PERSON", Edges.NONE, 1, 8, 10, 9, 10);
    }

    /** "UNKNOWN: the first is no PERSON (of all but 10)". */
    private static void firstsOfDay() {
        for (int second : new int[] {0, 5, 7, 11, 20, 23}) {
            for (int first : new int[] {-1, 6, 7, 8, 256, Integer.MIN_VALUE, Integer.MAX_VALUE}) {
                dueDay("first " + first + " and " + second, Edges.UNKNOWN, 0, first, second);
            }
        }
        dueDay("the first PERSON", Edges.NONE, 1, 0, 20, 0, 11);
        dueDay("the last PERSON", Edges.NONE, 1, 5, 23, 5, 4, 5, 11);
        PantomimeHorses two = Checks.of("d1;f00;f00");
        due("of two the second", Checks.day(two, 0, 1, 0), 2);
        due("of two a third", Checks.day(two, 0, 2, 0), Edges.UNKNOWN);
        PantomimeHorses eight = Checks.of("d1;f00;f00;f00;f00;f00;f00;f00;f00");
        due("of eight the eighth", Checks.day(eight, 0, 7, 6), 128);
        due("of eight a ninth", Checks.day(eight, 0, 8, 6), Edges.UNKNOWN);
    }

    /** What comes first where two are due: UNKNOWN, OUTSIDE, CAST or NULL, INDEX, then the pairs. */
    private static void whatComesFirstOfDay() {
        EDGES.refuses("UNKNOWN, OUTSIDE lane", Edges.UNKNOWN, x -> x.day(4, 3, 0, 0, 0));
        EDGES.refuses("UNKNOWN, OUTSIDE n", Edges.UNKNOWN, x -> x.day(-1, 0, 0, 21, 0));
        EDGES.refuses("UNKNOWN, OUTSIDE what", Edges.UNKNOWN, x -> x.day(4, 0, 0, 0, 5));
        EDGES.refuses("UNKNOWN, INDEX", Edges.UNKNOWN, x -> x.day(4, 0, -1, 0, 0));
        EDGES.refuses("OUTSIDE lane, NULL", Edges.OUTSIDE, x -> x.day(3, 3, 0, 0, 0));
        EDGES.refuses("OUTSIDE n, NULL", Edges.OUTSIDE, x -> x.day(3, 0, 0, -1, 0));
        EDGES.refuses("OUTSIDE n, CAST", Edges.OUTSIDE, x -> x.day(1, 0, 0, 21, 0));
        EDGES.refuses("OUTSIDE n, INDEX", Edges.OUTSIDE, x -> x.day(1, 1, 9, -1, 0));
        EDGES.refuses("OUTSIDE what, NULL", Edges.OUTSIDE, x -> x.day(3, 0, 0, 0, 18));
        EDGES.refuses("OUTSIDE what, CAST", Edges.OUTSIDE, x -> x.day(1, 0, 0, 0, -1));
        EDGES.refuses("OUTSIDE what, INDEX", Edges.OUTSIDE, x -> x.day(1, 1, 0, 5, 9));
        EDGES.faults("CAST, INDEX", Edges.CAST, x -> x.day(1, 0, 9, 4, 0));
        EDGES.faults("NULL, INDEX", Edges.NULL, x -> x.day(3, 0, 9, 4, 0));
        EDGES.faults("CAST, a pair", Edges.CAST, x -> x.day(2, 0, 0, 1, 0));
        EDGES.faults("INDEX, a pair", Edges.INDEX, x -> x.day(2, 2, 0, 3, 0));
    }

    /** "pair by pair OUTSIDE ..; UNKNOWN": of one pair OUTSIDE goes ahead, of two the first of them. */
    private static void pairByPair() {
        dueDay("of one pair", Edges.OUTSIDE, 0, 6, 8);
        dueDay("of one pair", Edges.OUTSIDE, 0, -1, 24);
        dueDay("UNKNOWN, then OUTSIDE", Edges.UNKNOWN, 0, 6, 0, 0, 8);
        dueDay("OUTSIDE, then UNKNOWN", Edges.OUTSIDE, 0, 10, 10, 6, 0);
        dueDay("in the last pair of three", Edges.UNKNOWN, 0, 0, 10, 0, 20, 6, 20);
        dueDay("a refusal, then a FIRST WRONG", Edges.OUTSIDE, 1, 0, 8, 4, 4);
        dueDay("a FIRST WRONG, then a refusal", Edges.OUTSIDE, 1, 4, 4, 0, 8);
        dueDay("a FIRST WRONG, then a refusal", Edges.UNKNOWN, 0, 4, 4, 6, 20);
        PantomimeHorses x = World.made();
        Checks.fill(x, 3, 2, 0, 8, 4, 5, 6, 20);
        due("pairs that are not taken are not looked at", x.day(3, 2, 2, 1, 1), Edges.NONE);
    }

    /** "n (0 .. 20)": a day without a pair is how all is now. */
    private static void emptyDay() {
        long[] wants = {9, Edges.NONE, 2, 0, 2 * 14 + 2 * 8, 1, 0, 3, 2, Edges.NONE, Edges.NONE, Edges.NONE, Edges.NONE};
        for (int w = 0; w < WHATS.length; w++) {
            int what = WHATS[w];
            EDGES.leaves("no pair, what " + what, wants[w], 0, x -> x.day(1, 1, 0, 0, what));
            EDGES.leaves("no HOURS, what " + what, wants[w], 0, x -> x.day(2, 2, 2, 1, what));
        }
        PantomimeHorses x = World.made();
        x.sheet(3, 0, 0);
        due("of an empty row", x.day(3, 0, 0, 0, 2), 2);
        due("of an empty row one", x.day(3, 0, 0, 1, 2), Edges.INDEX);
    }

    /** "(nothing is changed)": by acts of each sort, whatever is asked; and what they come to. */
    private static void dayChangesNothing() {
        // The same acts, carried out. In HOUR 3, 6 and 9 all CHANGE, so 1, 2 and 5 are in FRONT; then 1 is PARTED.
        PantomimeHorses x = World.made();
        x.join(4, 5);
        x.hours(9);
        x.part(0);
        x.bid(2, 3);
        long far = 0;
        int fronts = 0;
        for (int p = 0; p < 6; p++) {
            far += Math.abs(x.where(p, 0)) + Math.abs(x.where(p, 1));
            fronts |= x.ofPerson(p, 5) << p;
        }
        long[] wants = {fronts, Edges.NONE, 2, 0, far, Edges.NONE, Edges.NONE, 3, 2, 5, 4, Edges.NONE, Edges.NONE};
        for (int w = 0; w < WHATS.length; w++) {
            int what = WHATS[w];
            EDGES.leaves("a day, what " + what, wants[w], 0, y -> y.day(1, 1, 0, 4, what));
        }
        due("who is in FRONT", fronts, 4 | 32);
    }

    /** "FIRST WRONG: .. (either is JOINED, is himself, there is no such PERSON; he is not JOINED)". */
    private static void firstWrongs() {
        int[][] days = {{0, 4}, {1, 4}, {4, 0}, {4, 1}, {0, 1}, {1, 0}, {4, 4}, {0, 0}, {4, 6}, {4, 7}, {0, 7}, {4, 11}};
        for (int[] act : days) {
            String call = act[0] + " and " + act[1];
            for (int what : WHATS) {
                dueDay(call + " can't be", what == 1 ? 0 : -100, what, act);
                dueDay(call + " can't be, behind one", what == 1 ? 1 : -101, what, 0, 10, act[0], act[1]);
            }
        }
        dueDay("each is PARTED by the one", 1, 1, 0, 11, 1, 11);
        dueDay("each is PARTED by the other", 1, 1, 1, 11, 0, 11);
        dueDay("JOINED twice", 1, 1, 4, 5, 5, 4);
        dueDay("JOINED, PARTED, JOINED", Edges.NONE, 1, 4, 5, 4, 11, 5, 4);
        dueDay("a WILL can always be", Edges.NONE, 1, 0, 20, 4, 23);
        PantomimeHorses eight = Checks.of("d1;f00;f00;f00;f00;f00;f00;f00;f00");
        due("the eighth is a PERSON", Checks.day(eight, 1, 0, 7), Edges.NONE);
        due("a FIRST WRONG is no FAULT", Checks.day(eight, 0, 0, 0) * 10 - eight.fault(), -1000);
    }

    /** "FIRST WRONG: the first act that can't be": the first of two, and the last of 20. */
    private static void firstWrongAtTheEnds() {
        dueDay("the first of two", 1, 1, 0, 10, 4, 4, 5, 5);
        dueDay("the first of two", -101, 0, 0, 10, 4, 4, 5, 5);
        int[] twenty = new int[40];
        for (int pair = 0; pair < 19; pair++) {
            twenty[2 * pair + 1] = 10;
        }
        twenty[38] = 4;
        twenty[39] = 4;
        dueDay("the last of 20", 19, 1, twenty);
        dueDay("the last of 20", -119, 17, twenty);
        twenty[39] = 5;
        dueDay("none of 20", Edges.NONE, 1, twenty);
        dueDay("all of 20", 3, 2, twenty);
    }

    /** "from how all is now": the HOUR, who is in FRONT, where each is. */
    private static void dayFromNow() {
        dueDay("HOUR 3 is NOON", 2 | 4, 0, 1, 10);
        dueDay("HOUR 5 is no NOON", 2 | 4, 0, 3, 10);
        dueDay("HOUR 6 is NOON", 1 | 8, 0, 4, 10);
        dueDay("HOURS of two acts", 1 | 8, 0, 2, 10, 2, 10);
        dueDay("all are CHANGED who are JOINED by then", 2 | 4 | 16, 0, 5, 4, 1, 10);
        dueDay("who is JOINED behind NOON is not CHANGED", 2 | 4 | 32, 0, 1, 10, 5, 4);
        dueDay("JOINED where he is", 2 * 14 + 2 * 8, 4, 0, 11, 3, 11, 0, 1, 3, 2);
        dueDay("the other comes to him", 4 * 14 + 8, 4, 0, 11, 3, 11, 1, 3, 0, 4);
        // Behind HOUR 3 both are where they were to be but for 0's WILL: (10, 4) and (0, 2 - 5).
        dueDay("a WILL is so from then on", 2 * (10 + 1) + 2 * 12, 4, 0, 20, 1, 10);
        PantomimeHorses one = Checks.of("d1;f11;f02");
        one.join(0, 1);
        due("NOON each HOUR", Checks.day(one, 0, 1, 10), 2);
        due("NOON each HOUR", Checks.day(one, 0, 2, 10), 1);
    }

    /** "behind how many of its HOURS two HORSES are at one place (3)": none, some, all of 180. */
    private static void crowdedHours() {
        PantomimeHorses x = Checks.of("d9;f00;f00;f00;f00;f11;f00");
        x.join(0, 1);
        due("one HORSE is not two", Checks.day(x, 3, 9, 10), 0);
        due("who is not JOINED is no HORSE", Checks.day(x, 3, 2, 21, 9, 10), 0);
        x.join(2, 3);
        due("now is behind no HOUR", Checks.day(x, 3), 0);
        due("no HOURS", Checks.day(x, 3, 0, 10), 0);
        due("one", Checks.day(x, 3, 1, 10), 1);
        due("until they are PARTED", Checks.day(x, 3, 4, 10, 3, 11, 9, 10), 4);
        due("from when they are JOINED", Checks.day(x, 3, 3, 11, 4, 10, 3, 2, 9, 10), 9);
        int[] twenty = new int[40];
        for (int pair = 0; pair < 20; pair++) {
            twenty[2 * pair] = 9;
            twenty[2 * pair + 1] = 10;
        }
        due("all", Checks.day(x, 3, twenty), 180);
        // He goes 1 an HOUR until NOON, and stands from then on: he is where they are behind none.
        due("a third that goes", Checks.day(x, 3, 4, 5, 9, 10), 9);
        x.part(2);
        due("who goes and who stands", Checks.day(x, 3, 4, 5, 9, 10), 0);
        due("who comes back", Checks.day(x, 3, 4, 5, 3, 10, 4, 23, 5, 10), 1);
        PantomimeHorses y = Checks.of("d9;f11;f00;f12;f00");
        y.join(0, 1);
        y.join(2, 3);
        y.hours(1);
        due("neither column nor row", Checks.day(y, 3, 1, 10), 0);
        due("one column and one row", Checks.day(y, 3, 0, 22, 2, 21, 1, 10), 1);
        due("one column alone", Checks.day(y, 3, 2, 21, 0, 20, 1, 10), 0);
        due("one row alone", Checks.day(y, 3, 0, 22, 2, 23, 1, 10), 0);
    }

    /** "whom PERSON k is JOINED to then (10 and k; NONE: nobody, there is no such PERSON)". */
    private static void whomOfDay() {
        PantomimeHorses x = Checks.of("d1;f00;f00;f00;f00;f00;f00;f00;f00");
        int[] acts = {0, 7, 6, 1, 5, 2, 2, 11};
        int[] wants = {7, 6, Edges.NONE, Edges.NONE, Edges.NONE, Edges.NONE, 1, 0};
        for (int k = 0; k < 8; k++) {
            due("whom " + k, Checks.day(x, 10 + k, acts), wants[k]);
        }
        PantomimeHorses two = Checks.of("d1;f00;f00");
        for (int k = 0; k < 8; k++) {
            due("of two, whom " + k, Checks.day(two, 10 + k, 1, 0), k < 2 ? 1 - k : Edges.NONE);
            due("of two, whom " + k + ", a FIRST WRONG", Checks.day(two, 10 + k, 1, 1), -100);
        }
    }
}
