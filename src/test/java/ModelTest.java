import java.util.ArrayList;
import java.util.List;
import java.util.Random;

/** Runs of calls by chance (always the same ones), each answer as the model's. */
public final class ModelTest {
    private static final int RUNS = 1500;
    private static final int CALLS = 512;
    private static final String[] NAMES = {"duchy", "ofPerson", "where", "train", "bid", "jar", "join", "part", "hours",
        "day", "match", "rather", "meet", "leads", "reading", "back", "steps", "wills", "kinds", "odds", "sheet", "lose",
        "put", "cell", "copy", "tell", "pat", "as", "trace", "fault", "many"};

    private final Random random;
    private final PantomimeHorses x = new PantomimeHorses();
    private final Model model = new Model();
    private final List<String> asked = new ArrayList<>();

    private ModelTest(long seed) {
        random = new Random(seed);
    }

    public static void main(String[] args) {
        for (int run = 0; run < RUNS; run++) {
            new ModelTest(run).run();
        }
        System.out.println(RUNS + " runs of " + CALLS + " calls are as the model's");
    }

    private void run() {
        if (random.nextInt(20) > 0) {
            tellDuchy();
        }
        while (asked.size() < CALLS) {
            int what = random.nextInt(100);
            if (what == 0) {
                tellDuchy();
            } else if (what < 4) {
                tellDay();
            } else if (what < 7) {
                readWhatIs();
            } else {
                String name = NAMES[random.nextInt(NAMES.length)];
                ask(name, arguments(name));
            }
        }
    }

    /** A text of the right form, or with one code other, or cut. */
    private void tellDuchy() {
        StringBuilder text = new StringBuilder("d").append(1 + random.nextInt(9));
        int people = random.nextInt(12) == 0 ? 1 + random.nextInt(9) : 2 + random.nextInt(7);
        for (int p = 0; p < people; p++) {
            text.append(';').append("fho".charAt(random.nextInt(3))).append(random.nextInt(10)).append(random.nextInt(4));
        }
        if (random.nextInt(6) == 0) {
            text.setCharAt(random.nextInt(text.length()), "df;ho0359x/:".charAt(random.nextInt(12)));
        }
        if (random.nextInt(10) == 0) {
            text.setLength(random.nextInt(text.length()));
        }
        int sheet = random.nextInt(4);
        int lane = random.nextInt(3);
        int from = random.nextInt(3);
        ask("sheet", sheet, lane, from + text.length());
        for (int c = 0; c < text.length(); c++) {
            ask("put", sheet, from + c, text.charAt(c));
        }
        ask("duchy", sheet, lane, from, text.length());
    }

    private void tellDay() {
        int sheet = random.nextInt(4);
        int lane = random.nextInt(3);
        int n = random.nextInt(9);
        ask("sheet", sheet, lane, 2 * n);
        for (int a = 0; a < n; a++) {
            int[] seconds = {random.nextInt(8), 10, 11, 20 + random.nextInt(4), random.nextInt(60) == 0 ? 8 : 10};
            ask("put", sheet, 2 * a, random.nextInt(random.nextInt(30) == 0 ? 11 : 4));
            ask("put", sheet, 2 * a + 1, seconds[random.nextInt(seconds.length)]);
        }
        for (int what : new int[] {0, 1, 2, 3, 4, 10, 13, 17}) {
            ask("day", sheet, lane, 0, n, what);
        }
    }

    /** A reading that is so now, by the way that two have gone in an hour; it often stays so. */
    private void readWhatIs() {
        int a = random.nextInt(4);
        int b = random.nextInt(4);
        ask("part", a);
        ask("part", b);
        ask("join", a, b);
        long column = ask("where", a, 0);
        long row = ask("where", a, 1);
        ask("hours", 1);
        if (column != PantomimeHorses.LOST) {
            ask("reading", a, b, (int) (ask("where", a, 0) - column), (int) (ask("where", a, 1) - row));
            ask("steps", a);
            ask("wills", b);
            ask("kinds", a);
        }
    }

    private int[] arguments(String name) {
        switch (name) {
            case "duchy": return new int[] {place(), lane(), any(-1, 3), any(-1, 40)};
            case "ofPerson": return new int[] {person(), any(-1, 6)};
            case "where": return new int[] {person(), any(-1, 2)};
            case "train": return new int[] {person(), any(-1, 10)};
            case "bid": return new int[] {person(), any(-1, 4)};
            case "jar":
            case "join":
            case "meet": return new int[] {person(), person()};
            case "hours": return new int[] {random.nextInt(4) == 0 ? any(-1, 101) : any(0, 5)};
            case "day": return new int[] {place(), lane(), any(-1, 5), any(-1, 21), any(-1, 18)};
            case "match": return new int[] {any(-2, 8)};
            case "leads": return new int[] {person(), any(0, 9), any(-100, 100), any(-100, 100), any(-2, 8)};
            case "reading": return new int[] {person(), person(), any(-21, 21), any(-21, 21)};
            case "back": return new int[] {any(-1, 9)};
            case "odds": return new int[] {person(), person(), any(-1, 21), any(-1, 2)};
            case "sheet": return new int[] {place(), lane(), any(-2, 62)};
            case "lose": return new int[] {random.nextInt(4) == 0 ? place() : 4};
            case "put": return new int[] {place(), any(-1, 61), random.nextInt()};
            case "cell": return new int[] {place(), any(-1, 61), lane()};
            case "copy": return new int[] {place(), any(-1, 31), place(), any(-1, 31), any(-1, 31)};
            case "as": return new int[] {person(), any(-1, 3)};
            case "many": return new int[] {any(-1, 5)};
            case "rather":
            case "trace":
            case "fault": return new int[0];
            default: return new int[] {person()};
        }
    }

    /** Mostly as told, now and then as far out as numbers go. */
    private int any(int least, int most) {
        int chance = random.nextInt(200);
        if (chance == 0) {
            return Integer.MIN_VALUE;
        }
        if (chance == 1) {
            return Integer.MAX_VALUE;
        }
        return chance == 2 ? random.nextInt() : least + random.nextInt(most - least + 1);
    }

    private int person() {
        return random.nextInt(12) == 0 ? any(-1, 8) : random.nextInt(4);
    }

    private int place() {
        return random.nextInt(12) == 0 ? any(-1, 4) : random.nextInt(4);
    }

    private int lane() {
        return random.nextInt(12) == 0 ? any(-1, 3) : random.nextInt(3);
    }

    private long ask(String name, int... v) {
        if (asked.size() >= CALLS) {
            return PantomimeHorses.LOST;
        }
        long want = model.ask(name, v);
        long got = call(name, v);
        StringBuilder row = new StringBuilder(name);
        for (int a = 0; a < v.length; a++) {
            row.append(a == 0 ? "(" : ", ").append(v[a]);
        }
        asked.add(row.append(") = ").append(got).toString());
        if (got != want) {
            asked.forEach(System.out::println);
            System.out.println("the last is " + want + " by the model");
            System.exit(1);
        }
        return got;
    }

    private long call(String name, int[] v) {
        switch (name) {
            case "duchy": return x.duchy(v[0], v[1], v[2], v[3]);
            case "ofPerson": return x.ofPerson(v[0], v[1]);
            case "where": return x.where(v[0], v[1]);
            case "train": return x.train(v[0], v[1]);
            case "bid": return x.bid(v[0], v[1]);
            case "jar": return x.jar(v[0], v[1]);
            case "join": return x.join(v[0], v[1]);
            case "part": return x.part(v[0]);
            case "hours": return x.hours(v[0]);
            case "day": return x.day(v[0], v[1], v[2], v[3], v[4]);
            case "match": return x.match(v[0]);
            case "rather": return x.rather();
            case "meet": return x.meet(v[0], v[1]);
            case "leads": return x.leads(v[0], v[1], v[2], v[3], v[4]);
            case "reading": return x.reading(v[0], v[1], v[2], v[3]);
            case "back": return x.back(v[0]);
            case "steps": return x.steps(v[0]);
            case "wills": return x.wills(v[0]);
            case "kinds": return x.kinds(v[0]);
            case "odds": return x.odds(v[0], v[1], v[2], v[3]);
            case "sheet": return x.sheet(v[0], v[1], v[2]);
            case "lose": return x.lose(v[0]);
            case "put": return x.put(v[0], v[1], v[2]);
            case "cell": return x.cell(v[0], v[1], v[2]);
            case "copy": return x.copy(v[0], v[1], v[2], v[3], v[4]);
            case "tell": return x.tell(v[0]);
            case "pat": return x.pat(v[0]);
            case "as": return x.as(v[0], v[1]);
            case "trace": return x.trace();
            case "fault": return x.fault();
            case "many": return x.many(v[0]);
            default: throw new IllegalStateException(name);
        }
    }
}
