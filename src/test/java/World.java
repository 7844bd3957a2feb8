import java.util.ArrayList;
import java.util.List;

/** A duchy with something of all there can be, made alike each time, and all that can be seen of an object. */
final class World {
    /** Six people: 0 (5, 1) FORE, 1 (5, 2) HIND, 2 (4, 0) OLD, 3 (2, 3) FORE, 4 (2, 1) HIND, 5 (3, 3) OLD. */
    static final String TEXT = "d3;f51;h42;o80;f23;h11;o63";
    static final int CODES = TEXT.length();
    /** What fault() is in it: SIZE. */
    static final int FAULT = 4;
    private static final int MOST_CELLS = 60;

    private World() {
    }

    /**
     * Sheet 0 has the text (bytes), 1 a day of four pairs (shorts), 2 four ints, 3 nothing. 0 and 1 are a horse at
     * (10, 4), 3 and 2 one at (-4, -4), 0 and 3 in front; 4 and 5 are at (0, 0). It is hour 2, noon is 3. There are
     * two readings, both are so.
     */
    static PantomimeHorses made() {
        PantomimeHorses x = new PantomimeHorses();
        fillSheets(x);
        settle(x);
        x.sheet(3, 0, -1);
        return x;
    }

    /** The sheets of it, and no duchy. */
    static PantomimeHorses withoutDuchy() {
        PantomimeHorses x = new PantomimeHorses();
        fillSheets(x);
        x.sheet(3, 0, -1);
        return x;
    }

    /** Sheet 2 of it had ints, and has nothing any more. */
    static PantomimeHorses withALostSheet() {
        PantomimeHorses x = made();
        x.lose(2);
        return x;
    }

    private static void fillSheets(PantomimeHorses x) {
        Checks.fill(x, 0, 0, TEXT.chars().toArray());
        Checks.fill(x, 1, 1, 4, 5, 9, 10, 0, 11, 2, 23);
        Checks.fill(x, 2, 2, 70000, -70000, 0, 10);
    }

    private static void settle(PantomimeHorses x) {
        x.duchy(0, 0, 0, CODES);
        x.join(0, 1);
        x.join(3, 2);
        x.hours(2);
        x.reading(0, 1, 5, 2);
        x.reading(3, 2, -2, -2);
        x.tell(1);
    }

    /** All but fault(), which this changes: it asks for cells. Some 200 calls. */
    static List<String> seen(PantomimeHorses x) {
        List<String> rows = new ArrayList<>();
        rows.add("trace() = " + x.trace());
        for (int what = 0; what < 5; what++) {
            rows.add("many(" + what + ") = " + x.many(what));
        }
        for (int p = 0; p < x.many(0); p++) {
            for (int what = 0; what < 6; what++) {
                rows.add("ofPerson(" + p + ", " + what + ") = " + x.ofPerson(p, what));
            }
            rows.add("where " + p + " is: " + x.where(p, 0) + " " + x.where(p, 1));
            rows.add("sets of " + p + ": " + x.steps(p) + " " + x.wills(p) + " " + x.kinds(p));
        }
        for (int k = 0; k < 4; k++) {
            rows.add("sheet " + k + ":" + sheet(x, k));
        }
        return rows;
    }

    private static String sheet(PantomimeHorses x, int k) {
        StringBuilder row = new StringBuilder();
        for (int lane = 0; lane < 3; lane++) {
            x.cell(k, 0, lane);
            int fault = x.fault();
            if (fault != 2) {
                row.append(" lane ").append(lane).append(", fault ").append(fault);
            }
            for (int c = 0; fault == 0 && c <= MOST_CELLS; c++) {
                long cell = x.cell(k, c, lane);
                fault = cell == Long.MIN_VALUE ? x.fault() : 0;
                row.append(' ').append(cell);
            }
        }
        return row.toString();
    }
}
