/** Promises 8 to 11: joining, parting, hours, days told. */
public final class HorsesTest {
    private static final Checks CHECKS = new Checks();

    public static void main(String[] args) {
        joining();
        parting();
        ways();
        noons();
        daysAsTold();
        crowdedDays();
        wrongDays();
        refusedDays();
        CHECKS.end();
    }

    private static void due(String call, long got, long want) {
        CHECKS.due(call, got, want);
    }

    private static void joining() {
        PantomimeHorses x = Checks.of("d9;f31;f42;f21;f00;f00");
        due("join", x.join(0, 1), 1);
        due("join", x.join(3, 2), 2);
        due("the first is JOINED", x.join(0, 4), -3);
        due("the second is JOINED", x.join(4, 2), -3);
        due("to each other again", x.join(1, 0), -3);
        due("himself", x.join(4, 4), -1);
        due("himself, who is JOINED", x.join(0, 0), -1);
        due("nobody", x.join(0, 5), -1);
        due("nobody", x.join(-1, 4), -1);
        due("HORSES", x.many(3), 2);
        x.hours(1);
        x.part(0);
        due("he has gone", x.where(1, 0), 3);
        due("he has gone", x.where(1, 1), 2);
        due("joined where the one in FRONT is", x.join(4, 1), 2);
        due("the other comes there", x.where(1, 0), 0);
        due("the other comes there", x.where(1, 1), 0);
    }

    private static void parting() {
        PantomimeHorses x = Checks.of("d9;f31;f11;f21;f00");
        x.join(0, 1);
        x.join(3, 2);
        x.hours(2);
        due("part by the one behind", x.part(1), 1);
        due("neither is JOINED", x.ofPerson(0, 4), -9);
        due("neither is JOINED", x.ofPerson(1, 4), -9);
        due("nobody in FRONT", x.ofPerson(0, 5), 0);
        due("both are where it was", x.where(0, 0), 6);
        due("both are where it was", x.where(1, 0), 6);
        due("not JOINED", x.part(0), -3);
        due("nobody", x.part(4), -1);
        due("nobody", x.part(-1), -1);
        due("part by the one in FRONT", x.part(3), 0);
        x.hours(1);
        due("parted they stay", x.where(0, 0), 6);
    }

    private static void ways() {
        // Up 9, and half of 10 up; half of 9 is cut to 4.
        PantomimeHorses x = Checks.of("d9;f90;h90");
        x.join(0, 1);
        x.hours(1);
        due("up", x.where(0, 1), -14);
        x.part(0);
        x.join(1, 0);
        x.hours(1);
        due("up, changed", x.where(0, 1), -28);
        x.bid(0, 2);
        x.bid(1, 1);
        x.hours(1);
        due("to the right", x.where(0, 0), 10);
        due("and down", x.where(0, 1), -24);
        x.bid(1, 3);
        x.train(0, 0);
        x.hours(1);
        due("to the left", x.where(1, 0), 0);
        due("no row", x.where(1, 1), -24);
    }

    private static void noons() {
        PantomimeHorses x = new PantomimeHorses();
        due("0 hours ahead of a duchy", x.hours(0), -2);
        due("no duchy", x.hours(1), -3);
        Checks.tellDuchy(x, "d3;f81;f22;f00;f00");
        due("0 hours", x.hours(0), -2);
        due("-1 hours", x.hours(-1), -2);
        due("100 hours", x.hours(100), -2);
        due("hours without HORSES", x.hours(2), 2);
        x.join(0, 1);
        due("the HOUR of NOON", x.hours(1), 3);
        due("by the first", x.where(0, 0), 8);
        due("changed", x.ofPerson(0, 5), 0);
        due("changed", x.ofPerson(1, 5), 1);
        due("the HOUR", x.hours(1), 4);
        due("by the other", x.where(0, 0), 12);
        due("by the other", x.where(0, 1), 3);
        x.join(2, 3);
        due("to the next NOON", x.hours(2), 6);
        due("all change", x.ofPerson(0, 5), 1);
        due("all change", x.ofPerson(2, 5), 0);
        due("99 hours", x.hours(99), 105);
        due("many(2)", x.many(2), 105);
        eachHour();
        eightPeople();
    }

    private static void eachHour() {
        PantomimeHorses x = Checks.of("d1;f81;f22");
        x.join(0, 1);
        x.hours(1);
        due("NOON each HOUR", x.ofPerson(1, 5), 1);
        x.hours(1);
        due("NOON each HOUR", x.ofPerson(0, 5), 1);
        due("by both", x.where(0, 0), 12);
        due("by both", x.where(0, 1), 3);
    }

    private static void eightPeople() {
        PantomimeHorses x = Checks.of("d2;f11;f00;f21;f00;f31;f00;f00;f41");
        for (int p = 0; p < 8; p += 2) {
            due("join of eight", x.join(p, p + 1), p / 2 + 1);
        }
        due("hours of eight", x.hours(3), 3);
        due("the last one's HORSE", x.where(7, 0), 8);
        due("a day of eight", Checks.day(x, 0, 1, 10), 1 | 4 | 16 | 64);
        due("a day of eight, crowded", Checks.day(x, 3, 2, 10), 0);
        due("a day of eight, how far", Checks.day(x, 4), 2 * (2 + 5 + 7 + 8));
        due("the last of eight", Checks.day(x, 17), 6);
    }

    private static void daysAsTold() {
        PantomimeHorses x = Checks.of("d3;f51;h42;o80;f23;h11;o63");
        x.join(0, 1);
        x.hours(1);
        // 2 is joined behind 3, they go two hours (so it is NOON), 0 is parted, wills up, an hour more.
        int[] acts = {3, 2, 2, 10, 0, 11, 3, 20, 1, 10};
        due("FRONT", Checks.day(x, 0, acts), 1 << 2);
        due("FIRST WRONG", Checks.day(x, 1, acts), -9);
        due("HORSES", Checks.day(x, 2, acts), 1);
        due("crowded", Checks.day(x, 3, acts), 0);
        // 0 and 1: three times (5, 2). 2 and 3: twice (-2, -2), then 4 up and 1 up.
        due("how far", Checks.day(x, 4, acts), 2 * 21 + 2 * (4 + 9));
        due("whom 2", Checks.day(x, 12, acts), 3);
        due("whom 0", Checks.day(x, 10, acts), -9);
        due("whom nobody", Checks.day(x, 16, acts), -9);
        due("nothing is changed", x.many(3), 1);
        due("nothing is changed", x.many(2), 1);
        due("nothing is changed", x.where(0, 0), 5);
        due("nothing is changed", x.ofPerson(3, 2), 3);
        due("nothing is changed", x.ofPerson(0, 5), 1);
        due("no acts", Checks.day(x, 0), 1);
        due("no hours", Checks.day(x, 4, 0, 10), 14);
        due("part and join in other order", Checks.day(x, 0, 1, 11, 1, 0), 2);
    }

    private static void crowdedDays() {
        PantomimeHorses x = Checks.of("d9;f11;f01;f21;f01;f01;f01");
        x.join(0, 1);
        x.join(2, 3);
        x.join(4, 5);
        due("at one place, but behind no HOUR", Checks.day(x, 3), 0);
        due("apart behind each", Checks.day(x, 3, 4, 11, 5, 10), 0);
        due("two of three stand together", Checks.day(x, 3, 0, 11, 1, 0, 3, 10), 3);
        due("all three together is once an HOUR", Checks.day(x, 3, 0, 11, 1, 0, 2, 11, 3, 2, 3, 10), 3);
        due("they come back", Checks.day(x, 3, 4, 11, 2, 10, 0, 23, 2, 23, 2, 10), 1);
        due("who is not JOINED is no HORSE", Checks.day(x, 3, 4, 11, 2, 11, 4, 10), 0);
        PantomimeHorses y = Checks.of("d9;f00;f00;f00;f00");
        due("by 0 and 1 in FRONT", Checks.day(y, 3, 0, 2, 1, 3, 4, 10, 0, 11, 9, 10), 4);
    }

    private static void wrongDays() {
        PantomimeHorses x = Checks.of("d3;f51;h42;o80;f23");
        x.join(0, 1);
        due("he is JOINED", Checks.day(x, 0, 1, 10, 0, 2), -101);
        due("that one is JOINED", Checks.day(x, 2, 2, 1), -100);
        due("himself", Checks.day(x, 4, 2, 2), -100);
        due("no such PERSON", Checks.day(x, 10, 0, 11, 2, 4), -101);
        due("no such PERSON", Checks.day(x, 3, 2, 7), -100);
        due("not JOINED", Checks.day(x, 17, 1, 10, 1, 10, 2, 11), -102);
        due("parted twice", Checks.day(x, 1, 0, 11, 1, 11), 1);
        due("as what 1", Checks.day(x, 1, 2, 2), 0);
        due("fault()", x.fault(), 0);
        due("a refusal goes ahead of a FIRST WRONG", Checks.day(x, 1, 2, 2, 0, 8), -2);
    }

    private static void refusedDays() {
        PantomimeHorses x = new PantomimeHorses();
        due("nothing", x.day(0, 0, 0, 0, 0), -11);
        Checks.fill(x, 0, 0, 0, 99, 0, 10);
        due("no duchy", x.day(0, 0, 0, 2, 0), -3);
        due("no duchy, fault()", x.fault(), 0);
        due("INDEX ahead of no duchy", x.day(0, 0, 1, 2, 0), -13);
        Checks.tellDuchy(x, "d3;f51;h42");
        due("sheet 4", x.day(4, 9, 0, 99, 9), -1);
        due("sheet -1", x.day(-1, 0, 0, 0, 0), -1);
        due("lane 3", x.day(0, 3, 0, 1, 0), -2);
        due("n 21", x.day(0, 0, 0, 21, 0), -2);
        due("n -1", x.day(0, 0, 0, -1, 0), -2);
        for (int what : new int[] {-1, 5, 9, 18}) {
            due("what " + what, x.day(1, 0, 0, 0, what), -2);
        }
        due("CAST", x.day(0, 1, 9, 1, 0), -12);
        due("CAST, fault()", x.fault(), 2);
        due("NULL", x.day(1, 1, 9, 1, 0), -11);
        due("INDEX by half a pair", x.day(0, 0, 3, 1, 0), -13);
        due("INDEX below", x.day(0, 0, -1, 1, 0), -13);
        due("INDEX of no pair", x.day(0, 0, 5, 0, 0), -13);
        due("no pair at the end", x.day(0, 0, 4, 0, 0), 0);
        due("INDEX by a sum that wraps", x.day(0, 0, Integer.MAX_VALUE, 20, 0), -13);
        due("from i on", x.day(0, 0, 2, 1, 0), 0);
        Checks.fill(x, 0, 0, 0, 10, 0, 99);
        due("only n pairs", x.day(0, 0, 0, 1, 0), 0);
        int[] bad = {-1, 8, 9, 12, 19, 24};
        for (int second : bad) {
            due("second " + second, Checks.day(x, 0, 9, second), -2);
        }
        due("-1 hours", Checks.day(x, 0, -1, 10), -2);
        due("10 hours", Checks.day(x, 0, 10, 10), -2);
        due("9 hours", Checks.day(x, 0, 9, 10), 0);
        due("nobody joins", Checks.day(x, 0, 2, 0), -1);
        due("nobody parts", Checks.day(x, 0, -1, 11), -1);
        due("nobody wills", Checks.day(x, 0, 2, 23), -1);
        due("pair by pair", Checks.day(x, 0, 2, 0, 0, 8), -1);
        due("pair by pair", Checks.day(x, 0, 0, 8, 2, 0), -2);
    }
}
