/** What the tests share: counting answers that are not as due, and filling sheets. */
final class Checks {
    private int wrong = 0;
    private int asked = 0;

    void due(String call, long got, long want) {
        asked++;
        if (got != want) {
            wrong++;
            System.out.println(call + " answered " + got + ", due is " + want);
        }
    }

    void same(String call, String got, String want) {
        asked++;
        if (!got.equals(want)) {
            wrong++;
            System.out.println(call + ": " + got + ", due is " + want);
        }
    }

    void other(String call, long got, long notDue) {
        asked++;
        if (got == notDue) {
            wrong++;
            System.out.println(call + " answered " + got + ", which is not due");
        }
    }

    void end() {
        if (asked == 0) {
            System.out.println("nothing was asked");
            System.exit(1);
        }
        System.out.println(asked + " answers, " + wrong + " not as due");
        if (wrong != 0) {
            System.exit(1);
        }
    }

    static void fill(PantomimeHorses x, int sheet, int lane, int... cells) {
        must(x.sheet(sheet, lane, cells.length));
        for (int c = 0; c < cells.length; c++) {
            must(x.put(sheet, c, cells[c]));
        }
    }

    static int tellDuchy(PantomimeHorses x, String text) {
        fill(x, 3, 0, text.chars().toArray());
        return x.duchy(3, 0, 0, text.length());
    }

    static PantomimeHorses of(String text) {
        PantomimeHorses x = new PantomimeHorses();
        if (tellDuchy(x, text) < 0) {
            throw new IllegalStateException("no duchy by " + text);
        }
        return x;
    }

    static int day(PantomimeHorses x, int what, int... cells) {
        fill(x, 2, 1, cells);
        return x.day(2, 1, 0, cells.length / 2, what);
    }

    private static void must(int answer) {
        if (answer != 1) {
            throw new IllegalStateException("a sheet was not filled: " + answer);
        }
    }
}
