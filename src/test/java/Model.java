import java.math.BigInteger;
import java.util.ArrayList;
import java.util.Arrays;
import java.util.List;
import java.util.regex.Matcher;
import java.util.regex.Pattern;

/**
 * The document once more, by other means than the program's: real rows and kinds with the machine's own
 * exceptions, horses as objects, every row of leads and every match looked at. Calls are asked by name.
 */
final class Model {
    private static final Pattern TEXT = Pattern.compile("d[1-9](;[fho][0-9][0-3]){2,8}");
    private static final int[][] TURNS = {{0, -1}, {1, 0}, {0, 1}, {-1, 0}};

    /** What a call answers in place of what it was asked for. */
    private static final class Refusal extends RuntimeException {
        private static final long serialVersionUID = 1;
        final int code;

        Refusal(int code) {
            this.code = code;
        }
    }

    private static class Fore {
        int step;
        int will;
        Horse horse;
        long column;
        long row;

        int stride() {
            return step;
        }

        int telling(Model m) {
            m.left(1);
            return step;
        }

        int patted(Model m) {
            m.left(4);
            return will;
        }
    }

    private static class Hind extends Fore {
        @Override
        int stride() {
            return step + 1;
        }

        @Override
        int telling(Model m) {
            m.left(2);
            return super.telling(m) + 100;
        }
    }

    private static final class Old extends Hind {
        @Override
        int stride() {
            return step / 2;
        }

        @Override
        int telling(Model m) {
            m.left(3);
            int byHind = super.telling(m);
            m.left(1);
            return byHind + step;
        }

        @Override
        int patted(Model m) {
            m.left(5);
            return 60;
        }
    }

    private static final class Horse {
        Fore front;
        Fore behind;

        void go() {
            long[] way = way(front, behind);
            front.column += way[0];
            front.row += way[1];
            behind.column = front.column;
            behind.row = front.row;
        }

        void change() {
            Fore f = front;
            front = behind;
            behind = f;
        }
    }

    private static long[] way(Fore front, Fore behind) {
        int[] f = TURNS[front.will];
        int[] b = TURNS[behind.will];
        int half = behind.stride() / 2;
        return new long[] {front.stride() * f[0] + half * b[0], front.stride() * f[1] + half * b[1]};
    }

    private List<Fore> people = new ArrayList<>();
    private List<Horse> horses = new ArrayList<>();
    private final List<int[]> readings = new ArrayList<>();
    private final Object[] sheets = new Object[4];
    private int noon = 0;
    private int hour = 0;
    private int trace = 0;
    private int fault = 0;

    long ask(String name, int[] v) {
        boolean namesFaults = List.of("duchy", "day", "sheet", "put", "cell", "copy", "as").contains(name);
        boolean isLong = List.of("where", "odds", "cell").contains(name);
        int found;
        try {
            long answer = answer(name, v);
            fault = namesFaults ? 0 : fault;
            return answer;
        } catch (Refusal r) {
            fault = namesFaults ? 0 : fault;
            return isLong ? Long.MIN_VALUE : r.code;
        } catch (NullPointerException e) {
            found = 1;
        } catch (ClassCastException e) {
            found = 2;
        } catch (IndexOutOfBoundsException e) {
            found = 3;
        } catch (NegativeArraySizeException e) {
            found = 4;
        }
        fault = found;
        return isLong ? Long.MIN_VALUE : -10 - found;
    }

    private long answer(String name, int[] v) {
        switch (name) {
            case "duchy": return duchy(v[0], v[1], v[2], v[3]);
            case "ofPerson": return ofPerson(v[0], v[1]);
            case "where": return where(v[0], v[1]);
            case "train": return train(v[0], v[1]);
            case "bid": return bid(v[0], v[1]);
            case "jar": return jar(two(v[0], v[1]), person(v[1]));
            case "join": return join(v[0], v[1]);
            case "part": return part(v[0]);
            case "hours": return hours(v[0]);
            case "day": return day(v[0], v[1], v[2], v[3], v[4]);
            case "match": return match(v[0]);
            case "rather": return rather();
            case "meet": return meet(v[0], v[1]);
            case "leads": return leads(v[0], v[1], v[2], v[3], v[4]);
            case "reading": return reading(v);
            case "back": return back(v[0]);
            case "steps": return steps(person(v[0]));
            case "wills": return wills(person(v[0]));
            case "kinds": return kinds(v[0]);
            case "odds": return odds(v[0], v[1], v[2], v[3]);
            case "sheet": return sheet(v[0], v[1], v[2]);
            case "lose": return lose(v[0]);
            case "put": return put(v[0], v[1], v[2]);
            case "cell": return cell(v[0], v[1], v[2]);
            case "copy": return copy(v);
            case "tell": return person(v[0]).telling(this);
            case "pat": return person(v[0]).patted(this);
            case "as": return as(person(v[0]), v[1]);
            case "trace": return trace;
            case "fault": return fault;
            case "many": return many(v[0]);
            default: throw new IllegalStateException(name);
        }
    }

    private void left(int body) {
        trace = trace * 31 + body;
    }

    private static void inside(long v, long least, long most) {
        if (v < least || v > most) {
            throw new Refusal(-2);
        }
    }

    private static void state(boolean as) {
        if (!as) {
            throw new Refusal(-3);
        }
    }

    private Fore person(int p) {
        if (p < 0 || p >= people.size()) {
            throw new Refusal(-1);
        }
        return people.get(p);
    }

    private Fore two(int a, int b) {
        if (person(a) == person(b)) {
            throw new Refusal(-1);
        }
        return person(a);
    }

    private static void place(int k) {
        if (k < 0 || k > 3) {
            throw new Refusal(-1);
        }
    }

    /** n cells from i on, of what is taken as a row of a lane: the machine tells what can't be. */
    private int[] taken(int sheet, int lane, int i, int n) {
        Object o = sheets[sheet];
        int[] all;
        if (lane == 0) {
            byte[] row = (byte[]) o;
            all = new int[row.length];
            for (int c = 0; c < all.length; c++) {
                all[c] = row[c];
            }
        } else if (lane == 1) {
            short[] row = (short[]) o;
            all = new int[row.length];
            for (int c = 0; c < all.length; c++) {
                all[c] = row[c];
            }
        } else {
            all = (int[]) o;
            if (all == null) {
                throw new NullPointerException();
            }
        }
        int[] some = new int[n];
        System.arraycopy(all, i, some, 0, n);
        return some;
    }

    private int duchy(int sheet, int lane, int i, int n) {
        place(sheet);
        inside(lane, 0, 2);
        StringBuilder text = new StringBuilder();
        // A length beyond what there is would ask the machine for room: it is no length below 0, so INDEX.
        int[] cells = n > 60 ? taken(sheet, lane, i, 61) : taken(sheet, lane, i, n);
        for (int code : cells) {
            text.append(code >= 32 && code < 127 ? (char) code : '?');
        }
        for (int end = 1; end <= text.length(); end++) {
            Matcher m = TEXT.matcher(text.substring(0, end));
            if (!m.matches() && !m.hitEnd()) {
                return -100 - (end - 1);
            }
        }
        if (!TEXT.matcher(text).matches()) {
            return -100 - text.length();
        }
        String[] parts = text.toString().split(";");
        people = new ArrayList<>();
        horses = new ArrayList<>();
        readings.clear();
        hour = 0;
        noon = Integer.parseInt(parts[0].substring(1));
        for (String part : Arrays.asList(parts).subList(1, parts.length)) {
            Fore f = ofKind("fho".indexOf(part.charAt(0)));
            f.step = part.charAt(1) - '0';
            f.will = part.charAt(2) - '0';
            people.add(f);
        }
        return people.size();
    }

    private static Fore ofKind(int kind) {
        return kind == 0 ? new Fore() : kind == 1 ? new Hind() : new Old();
    }

    private static int kindOf(Fore f) {
        return f instanceof Old ? 2 : f instanceof Hind ? 1 : 0;
    }

    private int mateOf(Fore f) {
        if (f.horse == null) {
            return -9;
        }
        return people.indexOf(f.horse.front == f ? f.horse.behind : f.horse.front);
    }

    private int ofPerson(int p, int what) {
        Fore f = person(p);
        inside(what, 0, 5);
        boolean leads = f.horse != null && f.horse.front == f;
        return new int[] {kindOf(f), f.step, f.will, f.stride(), mateOf(f), leads ? 1 : 0}[what];
    }

    private long where(int p, int what) {
        Fore f = person(p);
        inside(what, 0, 1);
        return new long[] {f.column, f.row}[what];
    }

    private int train(int p, int v) {
        Fore f = person(p);
        inside(v, 0, 9);
        int was = f.step;
        f.step = v;
        return was;
    }

    private int bid(int p, int v) {
        Fore f = person(p);
        inside(v, 0, 3);
        int was = f.will;
        f.will = v;
        return was;
    }

    private static int jar(Fore a, Fore b) {
        int right = Math.floorMod(a.will - b.will, 4);
        int left = Math.floorMod(b.will - a.will, 4);
        return Math.abs(a.stride() - b.stride()) + Math.min(right, left);
    }

    private int join(int a, int b) {
        Fore first = two(a, b);
        Fore second = person(b);
        state(first.horse == null && second.horse == null);
        Horse h = new Horse();
        h.front = first;
        h.behind = second;
        first.horse = h;
        second.horse = h;
        second.column = first.column;
        second.row = first.row;
        horses.add(h);
        return horses.size();
    }

    private int part(int p) {
        Fore f = person(p);
        state(f.horse != null);
        Horse h = f.horse;
        horses.remove(h);
        h.front.horse = null;
        h.behind.horse = null;
        return horses.size();
    }

    private int hours(int n) {
        inside(n, 1, 99);
        state(!people.isEmpty());
        for (int h = 0; h < n; h++) {
            horses.forEach(Horse::go);
            hour++;
            if (hour / noon * noon == hour) {
                horses.forEach(Horse::change);
            }
        }
        return hour;
    }

    private Model twin() {
        Model m = new Model();
        m.noon = noon;
        m.hour = hour;
        m.readings.addAll(readings);
        for (Fore f : people) {
            Fore g = ofKind(kindOf(f));
            g.step = f.step;
            g.will = f.will;
            m.people.add(g);
        }
        for (Horse h : horses) {
            m.join(people.indexOf(h.front), people.indexOf(h.behind));
        }
        for (int p = 0; p < people.size(); p++) {
            m.people.get(p).column = people.get(p).column;
            m.people.get(p).row = people.get(p).row;
        }
        return m;
    }

    private int day(int sheet, int lane, int i, int n, int what) {
        place(sheet);
        inside(lane, 0, 2);
        inside(n, 0, 20);
        inside(what, 0, 17);
        if (what > 4 && what < 10) {
            throw new Refusal(-2);
        }
        int[] acts = taken(sheet, lane, i, 2 * n);
        state(!people.isEmpty());
        List<Integer> seconds = List.of(0, 1, 2, 3, 4, 5, 6, 7, 10, 11, 20, 21, 22, 23);
        for (int a = 0; a < n; a++) {
            if (!seconds.contains(acts[2 * a + 1])) {
                throw new Refusal(-2);
            }
            if (acts[2 * a + 1] == 10) {
                inside(acts[2 * a], 0, 9);
            } else {
                person(acts[2 * a]);
            }
        }
        return twin().played(acts, what);
    }

    private int played(int[] acts, int what) {
        int crowded = 0;
        for (int a = 0; a < acts.length / 2; a++) {
            int first = acts[2 * a];
            int second = acts[2 * a + 1];
            try {
                if (second < 8) {
                    join(first, second);
                } else if (second == 11) {
                    part(first);
                } else if (second >= 20) {
                    bid(first, second - 20);
                }
            } catch (Refusal r) {
                return what == 1 ? a : -100 - a;
            }
            for (int h = 0; second == 10 && h < first; h++) {
                hours(1);
                long places = horses.stream().map(x -> x.front.column + "/" + x.front.row).distinct().count();
                crowded += places < horses.size() ? 1 : 0;
            }
        }
        switch (what) {
            case 0: return horses.stream().mapToInt(h -> 1 << people.indexOf(h.front)).sum();
            case 1: return -9;
            case 2: return horses.size();
            case 3: return crowded;
            case 4: return (int) people.stream().mapToLong(f -> Math.abs(f.column) + Math.abs(f.row)).sum();
            default: return what - 10 < people.size() ? mateOf(people.get(what - 10)) : -9;
        }
    }

    private int match(int k) {
        inside(k, -1, 7);
        state(!people.isEmpty());
        List<int[]> rows = new ArrayList<>();
        int[] open = new int[people.size()];
        Arrays.fill(open, -1);
        matches(open, 0, rows);
        rows.sort((a, b) -> Arrays.compare(a, b));
        int[] best = null;
        for (int[] row : rows) {
            if (best == null || jarOf(row) < jarOf(best)) {
                best = row;
            }
        }
        if (k == -1) {
            return jarOf(best);
        }
        return k >= people.size() || best[k] == 9 ? -9 : best[k];
    }

    private void matches(int[] row, int p, List<int[]> rows) {
        if (p == row.length) {
            int alone = (int) Arrays.stream(row).filter(w -> w == 9).count();
            if (alone == row.length % 2) {
                rows.add(row.clone());
            }
        } else if (row[p] != -1) {
            matches(row, p + 1, rows);
        } else {
            row[p] = 9;
            matches(row, p + 1, rows);
            for (int o = row.length - 1; o > p; o--) {
                if (row[o] == -1) {
                    row[p] = o;
                    row[o] = p;
                    matches(row, p + 1, rows);
                    row[o] = -1;
                }
            }
            row[p] = -1;
        }
    }

    private int jarOf(int[] row) {
        int twice = 0;
        for (int p = 0; p < row.length; p++) {
            twice += row[p] == 9 ? 0 : jar(people.get(p), people.get(row[p]));
        }
        return twice / 2;
    }

    private int rather() {
        state(!people.isEmpty());
        for (int set = 0; set < 1 << people.size(); set++) {
            if (Integer.bitCount(set) == 2) {
                int a = Integer.numberOfTrailingZeros(set);
                int b = Integer.numberOfTrailingZeros(set & (set - 1));
                if (mateOf(people.get(a)) != b && prefers(a, b) && prefers(b, a)) {
                    return set;
                }
            }
        }
        return -9;
    }

    private boolean prefers(int p, int other) {
        int mate = mateOf(people.get(p));
        return mate == -9 || jar(people.get(p), people.get(other)) < jar(people.get(p), people.get(mate));
    }

    private int meet(int a, int b) {
        person(a);
        person(b);
        state(person(a).horse != null && person(b).horse != null);
        for (int h = 0; h <= 99; h++) {
            Model m = twin();
            if (h > 0) {
                m.hours(h);
            }
            if (m.where(a, 0) == m.where(b, 0) && m.where(a, 1) == m.where(b, 1)) {
                return h;
            }
        }
        return -9;
    }

    private int leads(int p, int n, int column, int row, int k) {
        Fore f = person(p);
        inside(n, 1, 8);
        inside(column, -99, 99);
        inside(row, -99, 99);
        inside(k, -1, 7);
        state(f.horse != null);
        Fore mate = people.get(mateOf(f));
        long least = Long.MAX_VALUE;
        String best = "";
        for (int bits = 0; bits < 1 << n; bits++) {
            String text = Integer.toBinaryString((1 << n) | bits).substring(1);
            long c = f.column;
            long r = f.row;
            for (char who : text.toCharArray()) {
                long[] way = who == '0' ? way(f, mate) : way(mate, f);
                c += way[0];
                r += way[1];
            }
            long far = Math.abs(c - column) + Math.abs(r - row);
            if (far < least) {
                least = far;
                best = text;
            }
        }
        if (k == -1) {
            return (int) least;
        }
        return k < n ? best.charAt(k) - '0' : -9;
    }

    private int reading(int[] v) {
        two(v[0], v[1]);
        inside(v[2], -20, 20);
        inside(v[3], -20, 20);
        if (readings.size() == 8) {
            throw new Refusal(-4);
        }
        readings.add(v.clone());
        return readings.size() - 1;
    }

    private int back(int n) {
        inside(n, 0, readings.size());
        for (int r = 0; r < n; r++) {
            readings.remove(readings.size() - 1);
        }
        return readings.size();
    }

    private boolean allSo() {
        return readings.stream().allMatch(
            v -> Arrays.equals(way(people.get(v[0]), people.get(v[1])), new long[] {v[2], v[3]}));
    }

    private int steps(Fore f) {
        int was = f.step;
        int set = 0;
        for (f.step = 0; f.step < 10; f.step++) {
            set += allSo() ? 1 << f.step : 0;
        }
        f.step = was;
        return set;
    }

    private int wills(Fore f) {
        int was = f.will;
        int set = 0;
        for (f.will = 0; f.will < 4; f.will++) {
            set += allSo() ? 1 << f.will : 0;
        }
        f.will = was;
        return set;
    }

    private int kinds(int p) {
        Fore was = person(p);
        int set = 0;
        for (int kind = 0; kind < 3; kind++) {
            Fore f = ofKind(kind);
            f.step = was.step;
            f.will = was.will;
            people.set(p, f);
            set += allSo() ? 1 << kind : 0;
        }
        people.set(p, was);
        return set;
    }

    private long odds(int a, int b, int v, int which) {
        two(a, b);
        inside(v, 0, 20);
        inside(which, 0, 1);
        Model m = twin();
        int upper = 0;
        for (int first = 0; first < 4; first++) {
            for (int second = 0; second < 4; second++) {
                m.bid(a, first);
                m.bid(b, second);
                long[] way = way(m.person(a), m.person(b));
                upper += Math.abs(way[0]) + Math.abs(way[1]) >= v ? 1 : 0;
            }
        }
        int common = BigInteger.valueOf(upper).gcd(BigInteger.valueOf(16)).intValue();
        return (which == 0 ? upper : 16) / common;
    }

    private int sheet(int k, int lane, int n) {
        place(k);
        inside(lane, 0, 2);
        inside(n, Integer.MIN_VALUE, 60);
        sheets[k] = lane == 0 ? new byte[n] : lane == 1 ? new short[n] : new int[n];
        return 1;
    }

    private int lose(int k) {
        place(k);
        int had = sheets[k] == null ? 0 : 1;
        sheets[k] = null;
        return had;
    }

    private int put(int k, int i, int v) {
        place(k);
        if (sheets[k] instanceof byte[] row) {
            row[i] = (byte) v;
        } else if (sheets[k] instanceof short[] row) {
            row[i] = (short) v;
        } else {
            ((int[]) sheets[k])[i] = v;
        }
        return 1;
    }

    private long cell(int k, int i, int lane) {
        place(k);
        inside(lane, 0, 2);
        return taken(k, lane, i, 1)[0];
    }

    private int copy(int[] v) {
        place(v[0]);
        place(v[2]);
        Object from = sheets[v[0]];
        Object to = sheets[v[2]];
        try {
            System.arraycopy(from, v[1], to, v[3], v[4]);
        } catch (ArrayStoreException e) {
            throw new ClassCastException();
        }
        return v[4];
    }

    private static int as(Fore f, int kind) {
        inside(kind, 0, 2);
        Fore taken = kind == 0 ? f : kind == 1 ? (Hind) f : (Old) f;
        return taken == f ? 1 : 0;
    }

    private int many(int what) {
        inside(what, 0, 4);
        return new int[] {people.size(), noon, hour, horses.size(), readings.size()}[what];
    }
}
