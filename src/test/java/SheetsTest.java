/** Promises 22 to 32: sheets, tellings, kinds, trace, faults, counts. */
public final class SheetsTest {
    private static final Checks CHECKS = new Checks();
    private static final long LOST = Long.MIN_VALUE;

    public static void main(String[] args) {
        sheets();
        cuts();
        puts();
        cells();
        copies();
        tellings();
        patting();
        kinds();
        faults();
        counts();
        CHECKS.end();
    }

    private static void due(String call, long got, long want) {
        CHECKS.due(call, got, want);
    }

    private static void sheets() {
        PantomimeHorses x = new PantomimeHorses();
        due("sheet", x.sheet(0, 0, 60), 1);
        due("put", x.put(0, 0, 7), 1);
        due("put", x.put(0, 59, 7), 1);
        due("a new row", x.sheet(0, 0, 60), 1);
        due("is all 0", x.cell(0, 0, 0), 0);
        due("is all 0", x.cell(0, 59, 0), 0);
        due("of no cells", x.sheet(1, 2, 0), 1);
        due("of no cells", x.put(1, 0, 0), -13);
        due("sheet 4", x.sheet(4, 9, 99), -1);
        due("sheet -1", x.sheet(-1, 0, 0), -1);
        due("lane 3", x.sheet(0, 3, -1), -2);
        due("lane -1", x.sheet(0, -1, 1), -2);
        due("n 61", x.sheet(0, 0, 61), -2);
        due("n -1", x.sheet(0, 0, -1), -14);
        due("SIZE", x.fault(), 4);
        due("it has what it had", x.put(0, 59, 7), 1);
        due("lose", x.lose(0), 1);
        due("lose again", x.lose(0), 0);
        due("it has nothing", x.put(0, 0, 0), -11);
        due("a fault stays, by lose", x.lose(1) + 10 * x.fault(), 11);
        due("lose 4", x.lose(4), -1);
        due("lose -1", x.lose(-1), -1);
        due("a row of less cells", x.sheet(0, 0, 3) + x.put(0, 3, 1), -12);
        due("a row of more cells has 0", x.sheet(0, 1, 60) + x.cell(0, 59, 1), 1);
    }

    private static void cuts() {
        PantomimeHorses x = new PantomimeHorses();
        int[] values = {127, 128, 255, 256, -129, 32767, 32768, 65535, Integer.MIN_VALUE, Integer.MAX_VALUE};
        for (int v : values) {
            x.sheet(0, 0, 1);
            x.put(0, 0, v);
            due("a byte of " + v, x.cell(0, 0, 0), (byte) v);
            x.sheet(0, 1, 1);
            x.put(0, 0, v);
            due("a short of " + v, x.cell(0, 0, 1), (short) v);
            x.sheet(0, 2, 1);
            x.put(0, 0, v);
            due("an int of " + v, x.cell(0, 0, 2), v);
        }
    }

    private static void puts() {
        PantomimeHorses x = new PantomimeHorses();
        due("put to 4", x.put(4, 0, 0), -1);
        due("put to -1", x.put(-1, 0, 0), -1);
        due("NULL", x.put(0, -1, 0), -11);
        due("NULL, fault()", x.fault(), 1);
        x.sheet(0, 0, 2);
        due("put", x.put(0, 1, 5), 1);
        due("fault() is past", x.fault(), 0);
        due("INDEX", x.put(0, 2, 5), -13);
        due("INDEX, fault()", x.fault(), 3);
        due("INDEX below", x.put(0, -1, 5), -13);
        due("INDEX far", x.put(0, Integer.MAX_VALUE, 5), -13);
        due("INDEX far below", x.put(0, Integer.MIN_VALUE, 5), -13);
        due("put is refused", x.put(4, 0, 0), -1);
        due("put is refused, fault()", x.fault(), 0);
    }

    private static void dueLost(String call, PantomimeHorses x, long got, int fault) {
        due(call, got, LOST);
        due(call + ", fault()", x.fault(), fault);
    }

    private static void cells() {
        PantomimeHorses x = new PantomimeHorses();
        x.sheet(0, 1, 2);
        x.put(0, 1, -5);
        due("cell", x.cell(0, 1, 1), -5);
        dueLost("CAST", x, x.cell(0, 9, 0), 2);
        dueLost("sheet 4", x, x.cell(4, 0, 0), 0);
        dueLost("NULL", x, x.cell(1, 9, 0), 1);
        dueLost("lane 3", x, x.cell(0, 0, 3), 0);
        dueLost("INDEX", x, x.cell(0, 2, 1), 3);
        dueLost("lane -1", x, x.cell(1, 0, -1), 0);
        dueLost("INDEX below", x, x.cell(0, -1, 1), 3);
        dueLost("sheet -1", x, x.cell(-1, 0, 1), 0);
    }

    private static void dueCells(String call, PantomimeHorses x, int k, int... wants) {
        for (int c = 0; c < wants.length; c++) {
            due(call + ", cell " + c, x.cell(k, c, 2), wants[c]);
        }
    }

    private static void copies() {
        PantomimeHorses x = new PantomimeHorses();
        Checks.fill(x, 0, 2, 1, 2, 3, 4, 5);
        Checks.fill(x, 1, 2, 0, 0, 0);
        Checks.fill(x, 2, 1, 9, 9);
        due("copy", x.copy(0, 1, 1, 1, 2), 2);
        dueCells("copied", x, 1, 0, 2, 3);
        due("copy up, as they were", x.copy(0, 0, 0, 1, 4), 4);
        dueCells("copied", x, 0, 1, 1, 2, 3, 4);
        due("copy down, as they were", x.copy(0, 1, 0, 0, 4), 4);
        dueCells("copied", x, 0, 1, 2, 3, 4, 4);
        due("none, at both ends", x.copy(0, 5, 1, 3, 0), 0);
        due("from 4", x.copy(4, 0, 1, 0, 0), -1);
        due("to 4", x.copy(3, 0, 4, 0, 0), -1);
        due("from -1", x.copy(-1, 0, 1, 0, 0), -1);
        due("to -1", x.copy(0, 0, -1, 0, 0), -1);
        due("NULL", x.copy(3, 0, 2, 0, -1), -11);
        due("NULL, fault()", x.fault(), 1);
        due("NULL, the other", x.copy(2, 0, 3, 0, 0), -11);
        due("CAST", x.copy(2, 9, 0, 9, -1), -12);
        due("CAST, fault()", x.fault(), 2);
        int[][] bad = {{-1, 0, 1}, {0, -1, 1}, {0, 0, -1}, {4, 0, 2}, {0, 2, 2}, {6, 0, 0}, {0, 4, 0},
            {5, 0, Integer.MAX_VALUE}, {Integer.MAX_VALUE, 0, 1}, {0, Integer.MIN_VALUE, 0}};
        for (int[] b : bad) {
            due("INDEX " + b[0] + " " + b[1] + " " + b[2], x.copy(0, b[0], 1, b[1], b[2]), -13);
            due("INDEX, fault()", x.fault(), 3);
        }
        dueCells("nothing is changed", x, 1, 0, 2, 3);
    }

    private static int traced(int... bodies) {
        int trace = 0;
        for (int body : bodies) {
            trace = 31 * trace + body;
        }
        return trace;
    }

    private static void tellings() {
        PantomimeHorses x = Checks.of("d5;f51;h42;o83");
        due("FORE", x.tell(0), 5);
        due("FORE, TRACE", x.trace(), traced(1));
        due("HIND", x.tell(1), 104);
        due("HIND, TRACE", x.trace(), traced(1, 2, 1));
        due("OLD", x.tell(2), 116);
        due("OLD, TRACE", x.trace(), traced(1, 2, 1, 3, 2, 1, 1));
        due("nobody", x.tell(3), -1);
        due("nobody", x.tell(-1), -1);
        due("nobody, TRACE", x.trace(), traced(1, 2, 1, 3, 2, 1, 1));
        x.train(0, 9);
        due("trained", x.tell(0), 9);
    }

    private static void patting() {
        PantomimeHorses x = Checks.of("d5;f51;h42;o83");
        due("FORE", x.pat(0), 1);
        due("HIND", x.pat(1), 2);
        due("OLD", x.pat(2), 60);
        due("TRACE", x.trace(), traced(4, 4, 5));
        due("nobody", x.pat(3), -1);
        due("nobody", x.pat(-1), -1);
        due("nobody, TRACE", x.trace(), traced(4, 4, 5));
    }

    private static void kinds() {
        PantomimeHorses x = Checks.of("d5;f51;h42;o83");
        for (int p = 0; p < 3; p++) {
            for (int kind = 0; kind < 3; kind++) {
                due("as(" + p + ", " + kind + ")", x.as(p, kind), kind <= p ? 1 : -12);
                due("fault()", x.fault(), kind <= p ? 0 : 2);
            }
        }
        due("kind 3", x.as(0, 3), -2);
        due("kind -1", x.as(0, -1), -2);
        due("nobody", x.as(3, 3), -1);
        due("nobody", x.as(-1, 0), -1);
    }

    private static void faults() {
        PantomimeHorses x = Checks.of("d5;f51;h42;o83");
        x.as(0, 1);
        x.ofPerson(9, 9);
        x.join(0, 1);
        x.hours(1);
        x.match(0);
        x.lose(0);
        x.reading(0, 0, 0, 0);
        x.tell(0);
        x.many(0);
        due("calls that name no FAULT leave it", x.fault(), 2);
        due("fault() itself leaves it", x.fault(), 2);
        x.as(0, 9);
        due("refused", x.fault(), 0);
        x.put(0, 0, 0);
        due("NULL", x.fault(), 1);
        x.sheet(0, 0, 61);
        due("sheet is refused", x.fault(), 0);
        x.put(1, 0, 0);
        x.copy(9, 0, 0, 0, 0);
        due("copy is refused", x.fault(), 0);
        x.put(1, 0, 0);
        x.day(9, 0, 0, 0, 0);
        due("day is refused", x.fault(), 0);
        x.put(1, 0, 0);
        Checks.tellDuchy(x, "d5;f51;h42");
        due("duchy is well", x.fault(), 0);
    }

    private static void counts() {
        PantomimeHorses x = Checks.of("d5;f51;h42;o83");
        x.join(0, 1);
        x.hours(4);
        x.reading(0, 1, 0, 0);
        x.reading(0, 1, 0, 0);
        int[] wants = {3, 5, 4, 1, 2};
        for (int what = 0; what < 5; what++) {
            due("many(" + what + ")", x.many(what), wants[what]);
        }
        due("many(5)", x.many(5), -2);
        due("many(-1)", x.many(-1), -2);
    }
}
