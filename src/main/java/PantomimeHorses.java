/**
 * A duchy in which marriages are pantomime horses: people of three kinds, the horses they make by twos,
 * and what can be told of where those go. The promises are those of the document, DOC.md.
 */
public final class PantomimeHorses {
    public static final int UNKNOWN = -1, OUTSIDE = -2, STATE = -3, FULL = -4, NONE = -9;
    public static final long LOST = Long.MIN_VALUE;

    private static final int FAULT_NULL = 1, FAULT_CAST = 2, FAULT_INDEX = 3, FAULT_SIZE = 4;
    private static final int FORE = 0, HIND = 1, OLD = 2;
    private static final int LEAST_PEOPLE = 2, MOST_PEOPLE = 8;
    private static final int KINDS = 3, STEPS = 10, WILLS = 4;
    private static final int SHEETS = 4, LANES = 3, MOST_CELLS = 60;
    private static final int MOST_READINGS = 8, FARTHEST_READ = 20;
    private static final int MOST_HOURS = 99, MOST_LEADS = 8, FARTHEST_LED = 99;
    private static final int MOST_PAIRS = 20, MOST_ACT_HOURS = 9;
    private static final int ACT_HOURS = 10, ACT_PART = 11, ACT_WILL = 20;
    private static final int LONGEST_ODDS = 20;
    private static final int TEXT_HEAD = 2, TEXT_PERSON = 4;

    private final Sheet[] sheets = new Sheet[SHEETS];
    private final Duchy now = new Duchy();
    /** Questions of what would be are tried here, so that nothing has to be undone in what is. */
    private final Duchy trial = new Duchy();
    private final Day told = new Day();
    private final Readings readings = new Readings();
    private final Matching matching = new Matching();
    private int trace = 0;
    private int fault = 0;

    public PantomimeHorses() {
        for (int k = 0; k < SHEETS; k++) {
            sheets[k] = new Sheet();
        }
    }

    // ---- 1 the duchy

    public int duchy(int sheet, int lane, int i, int n) {
        fault = 0;
        if (!isSheet(sheet)) {
            return UNKNOWN;
        }
        if (!isLane(lane)) {
            return OUTSIDE;
        }
        Sheet text = sheets[sheet];
        int found = text.faultAs(lane);
        if (found == 0 && n < 0) {
            found = FAULT_SIZE;
        }
        if (found == 0 && !text.holds(i, n)) {
            found = FAULT_INDEX;
        }
        if (found != 0) {
            return faulted(found);
        }
        int wrong = firstFault(text, i, n);
        if (wrong != NONE) {
            return -100 - wrong;
        }
        now.found(text, i, n);
        readings.count = 0;
        return now.count;
    }

    public int ofPerson(int p, int what) {
        if (!now.isPerson(p)) {
            return UNKNOWN;
        }
        switch (what) {
            case 0:
                return now.kind[p];
            case 1:
                return now.step[p];
            case 2:
                return now.will[p];
            case 3:
                return now.stride(p);
            case 4:
                return now.mate[p];
            case 5:
                return now.front[p] ? 1 : 0;
            default:
                return OUTSIDE;
        }
    }

    public long where(int p, int what) {
        if (!now.isPerson(p) || what < 0 || what > 1) {
            return LOST;
        }
        return what == 0 ? now.column[p] : now.row[p];
    }

    public int train(int p, int v) {
        if (!now.isPerson(p)) {
            return UNKNOWN;
        }
        if (v < 0 || v >= STEPS) {
            return OUTSIDE;
        }
        int was = now.step[p];
        now.step[p] = v;
        return was;
    }

    public int bid(int p, int v) {
        if (!now.isPerson(p)) {
            return UNKNOWN;
        }
        if (v < 0 || v >= WILLS) {
            return OUTSIDE;
        }
        int was = now.will[p];
        now.will[p] = v;
        return was;
    }

    public int jar(int a, int b) {
        if (!now.areTwo(a, b)) {
            return UNKNOWN;
        }
        return now.jarOf(a, b);
    }

    // ---- 2 horses

    public int join(int a, int b) {
        if (!now.areTwo(a, b)) {
            return UNKNOWN;
        }
        if (now.isJoined(a) || now.isJoined(b)) {
            return STATE;
        }
        now.button(a, b);
        return now.horses();
    }

    public int part(int p) {
        if (!now.isPerson(p)) {
            return UNKNOWN;
        }
        if (!now.isJoined(p)) {
            return STATE;
        }
        now.unbutton(p);
        return now.horses();
    }

    public int hours(int n) {
        if (n < 1 || n > MOST_HOURS) {
            return OUTSIDE;
        }
        if (now.isNone()) {
            return STATE;
        }
        for (int h = 0; h < n; h++) {
            now.passHour();
        }
        return now.hour;
    }

    public int day(int sheet, int lane, int i, int n, int what) {
        fault = 0;
        if (!isSheet(sheet)) {
            return UNKNOWN;
        }
        if (!isLane(lane) || n < 0 || n > MOST_PAIRS || !isDayQuestion(what)) {
            return OUTSIDE;
        }
        Sheet acts = sheets[sheet];
        int found = acts.faultAs(lane);
        if (found == 0 && !acts.holds(i, 2 * n)) {
            found = FAULT_INDEX;
        }
        if (found != 0) {
            return faulted(found);
        }
        if (now.isNone()) {
            return STATE;
        }
        int refusal = refusalOfActs(acts, i, n);
        if (refusal != 0) {
            return refusal;
        }
        told.duchy.become(now);
        return told.answer(what, told.play(acts, i, n));
    }

    // ---- 3 who goes with whom

    public int match(int k) {
        if (k < -1 || k >= MOST_PEOPLE) {
            return OUTSIDE;
        }
        if (now.isNone()) {
            return STATE;
        }
        matching.seek(now);
        if (k == -1) {
            return matching.leastJar;
        }
        return now.isPerson(k) ? matching.best[k] : NONE;
    }

    public int rather() {
        if (now.isNone()) {
            return STATE;
        }
        // By the higher one first: so the sets, as numbers, come from the least on.
        for (int b = 1; b < now.count; b++) {
            for (int a = 0; a < b; a++) {
                if (now.wouldRather(a, b) && now.wouldRather(b, a)) {
                    return (1 << a) | (1 << b);
                }
            }
        }
        return NONE;
    }

    public int meet(int a, int b) {
        if (!now.isPerson(a) || !now.isPerson(b)) {
            return UNKNOWN;
        }
        if (!now.isJoined(a) || !now.isJoined(b)) {
            return STATE;
        }
        trial.become(now);
        for (int h = 0; h <= MOST_HOURS; h++) {
            if (trial.atOnePlace(a, b)) {
                return h;
            }
            trial.passHour();
        }
        return NONE;
    }

    public int leads(int p, int n, int column, int row, int k) {
        if (!now.isPerson(p)) {
            return UNKNOWN;
        }
        if (n < 1 || n > MOST_LEADS || !isWithin(column, FARTHEST_LED) || !isWithin(row, FARTHEST_LED)
                || k < -1 || k >= MOST_LEADS) {
            return OUTSIDE;
        }
        if (!now.isJoined(p)) {
            return STATE;
        }
        // Only how many HOURS the mate leads tells where it ends; the first row of so many has them last,
        // and of two such rows the one in which he leads less is the first.
        int mateHours = 0;
        long least = now.farAfter(p, n, 0, column, row);
        for (int m = 1; m <= n; m++) {
            long far = now.farAfter(p, n - m, m, column, row);
            if (far < least) {
                least = far;
                mateHours = m;
            }
        }
        if (k == -1) {
            return (int) least;
        }
        if (k >= n) {
            return NONE;
        }
        return k >= n - mateHours ? 1 : 0;
    }

    // ---- 4 the way gone

    public int reading(int a, int b, int columns, int rows) {
        if (!now.areTwo(a, b)) {
            return UNKNOWN;
        }
        if (!isWithin(columns, FARTHEST_READ) || !isWithin(rows, FARTHEST_READ)) {
            return OUTSIDE;
        }
        if (readings.count >= MOST_READINGS) {
            return FULL;
        }
        return readings.add(a, b, columns, rows);
    }

    public int back(int n) {
        if (n < 0 || n > readings.count) {
            return OUTSIDE;
        }
        readings.count -= n;
        return readings.count;
    }

    public int steps(int p) {
        if (!now.isPerson(p)) {
            return UNKNOWN;
        }
        trial.become(now);
        return readings.fitting(trial, trial.step, p, STEPS);
    }

    public int wills(int p) {
        if (!now.isPerson(p)) {
            return UNKNOWN;
        }
        trial.become(now);
        return readings.fitting(trial, trial.will, p, WILLS);
    }

    public int kinds(int p) {
        if (!now.isPerson(p)) {
            return UNKNOWN;
        }
        trial.become(now);
        return readings.fitting(trial, trial.kind, p, KINDS);
    }

    public long odds(int a, int b, int v, int which) {
        if (!now.areTwo(a, b) || v < 0 || v > LONGEST_ODDS || which < 0 || which > 1) {
            return LOST;
        }
        int upper = waysAsLong(a, b, v);
        int lower = WILLS * WILLS;
        // The lower number is a power of two, so halving is all there is to cut by.
        while (lower > 1 && upper % 2 == 0) {
            upper /= 2;
            lower /= 2;
        }
        return which == 0 ? upper : lower;
    }

    // ---- 5 sheets, parts

    public int sheet(int k, int lane, int n) {
        fault = 0;
        if (!isSheet(k)) {
            return UNKNOWN;
        }
        if (!isLane(lane) || n > MOST_CELLS) {
            return OUTSIDE;
        }
        if (n < 0) {
            return faulted(FAULT_SIZE);
        }
        sheets[k].renew(lane, n);
        return 1;
    }

    public int lose(int k) {
        if (!isSheet(k)) {
            return UNKNOWN;
        }
        boolean had = sheets[k].hasRow;
        sheets[k].hasRow = false;
        return had ? 1 : 0;
    }

    public int put(int k, int i, int v) {
        fault = 0;
        if (!isSheet(k)) {
            return UNKNOWN;
        }
        Sheet s = sheets[k];
        if (!s.hasRow) {
            return faulted(FAULT_NULL);
        }
        if (!s.holds(i, 1)) {
            return faulted(FAULT_INDEX);
        }
        s.cells[i] = s.cut(v);
        return 1;
    }

    public long cell(int k, int i, int lane) {
        fault = 0;
        if (!isSheet(k) || !isLane(lane)) {
            return LOST;
        }
        Sheet s = sheets[k];
        int found = s.faultAs(lane);
        if (found == 0 && !s.holds(i, 1)) {
            found = FAULT_INDEX;
        }
        if (found != 0) {
            fault = found;
            return LOST;
        }
        return s.cells[i];
    }

    public int copy(int k, int i, int other, int j, int n) {
        fault = 0;
        if (!isSheet(k) || !isSheet(other)) {
            return UNKNOWN;
        }
        Sheet from = sheets[k];
        Sheet to = sheets[other];
        if (!from.hasRow || !to.hasRow) {
            return faulted(FAULT_NULL);
        }
        if (from.lane != to.lane) {
            return faulted(FAULT_CAST);
        }
        if (!from.holds(i, n) || !to.holds(j, n)) {
            return faulted(FAULT_INDEX);
        }
        System.arraycopy(from.cells, i, to.cells, j, n);
        return n;
    }

    public int tell(int p) {
        if (!now.isPerson(p)) {
            return UNKNOWN;
        }
        switch (now.kind[p]) {
            case FORE:
                return foreTells(p);
            case HIND:
                return hindTells(p);
            default:
                return oldTells(p);
        }
    }

    public int pat(int p) {
        if (!now.isPerson(p)) {
            return UNKNOWN;
        }
        if (now.kind[p] == OLD) {
            leave(5);
            return 60;
        }
        leave(4);
        return now.will[p];
    }

    public int as(int p, int kind) {
        fault = 0;
        if (!now.isPerson(p)) {
            return UNKNOWN;
        }
        if (kind < 0 || kind >= KINDS) {
            return OUTSIDE;
        }
        // Each kind is of the one before it, too: so he is of all the kinds up to his own.
        if (kind > now.kind[p]) {
            return faulted(FAULT_CAST);
        }
        return 1;
    }

    public int trace() {
        return trace;
    }

    public int fault() {
        return fault;
    }

    public int many(int what) {
        switch (what) {
            case 0:
                return now.count;
            case 1:
                return now.noon;
            case 2:
                return now.hour;
            case 3:
                return now.horses();
            case 4:
                return readings.count;
            default:
                return OUTSIDE;
        }
    }

    // ---- what the calls share

    private int faulted(int found) {
        fault = found;
        return -10 - found;
    }

    private static boolean isSheet(int k) {
        return k >= 0 && k < SHEETS;
    }

    private static boolean isLane(int lane) {
        return lane >= 0 && lane < LANES;
    }

    private static boolean isWithin(int v, int far) {
        return v >= -far && v <= far;
    }

    private static boolean isDayQuestion(int what) {
        return what >= 0 && what <= 4 || what >= 10 && what < 10 + MOST_PEOPLE;
    }

    /** The place of the FIRST FAULT of a text of n cells that are all there, or NONE. */
    private static int firstFault(Sheet text, int i, int n) {
        for (int at = 0; at < n; at++) {
            if (!goesOn(at, text.cells[i + at])) {
                return at;
            }
        }
        boolean whole = n >= TEXT_HEAD + LEAST_PEOPLE * TEXT_PERSON && (n - TEXT_HEAD) % TEXT_PERSON == 0;
        return whole ? NONE : n;
    }

    /** Whether some text has this code at this place: which codes these are hangs on the place alone. */
    private static boolean goesOn(int at, int code) {
        if (at == 0) {
            return code == 'd';
        }
        if (at == 1) {
            return code >= '1' && code <= '9';
        }
        if (at >= TEXT_HEAD + MOST_PEOPLE * TEXT_PERSON) {
            return false;
        }
        switch ((at - TEXT_HEAD) % TEXT_PERSON) {
            case 0:
                return code == ';';
            case 1:
                return code == 'f' || code == 'h' || code == 'o';
            case 2:
                return code >= '0' && code <= '9';
            default:
                return code >= '0' && code <= '3';
        }
    }

    /** Looked at ahead of any act: a refused day has no FIRST WRONG. 0: none is refused. */
    private int refusalOfActs(Sheet acts, int i, int n) {
        for (int act = 0; act < n; act++) {
            int first = acts.cells[i + 2 * act];
            int second = acts.cells[i + 2 * act + 1];
            if (!isActKind(second) || second == ACT_HOURS && (first < 0 || first > MOST_ACT_HOURS)) {
                return OUTSIDE;
            }
            if (second != ACT_HOURS && !now.isPerson(first)) {
                return UNKNOWN;
            }
        }
        return 0;
    }

    private static boolean isActKind(int second) {
        return second >= 0 && second < MOST_PEOPLE || second == ACT_HOURS || second == ACT_PART
                || second >= ACT_WILL && second < ACT_WILL + WILLS;
    }

    /** By how many of all two WILLS the WAY is at least v long. */
    private int waysAsLong(int a, int b, int v) {
        trial.become(now);
        int ways = 0;
        for (int w = 0; w < WILLS * WILLS; w++) {
            trial.will[a] = w / WILLS;
            trial.will[b] = w % WILLS;
            if (Math.abs(trial.wayColumns(a, b)) + Math.abs(trial.wayRows(a, b)) >= v) {
                ways++;
            }
        }
        return ways;
    }

    private void leave(int body) {
        trace = 31 * trace + body;
    }

    private int foreTells(int p) {
        leave(1);
        return now.step[p];
    }

    private int hindTells(int p) {
        leave(2);
        return foreTells(p) + 100;
    }

    private int oldTells(int p) {
        leave(3);
        int asHind = hindTells(p);
        return asHind + foreTells(p);
    }

    /** A row of numbers of a lane, or nothing; its cells are made once and used by every row it gets. */
    private static final class Sheet {
        boolean hasRow = false;
        int lane = 0;
        int size = 0;
        final int[] cells = new int[MOST_CELLS];

        void renew(int newLane, int newSize) {
            hasRow = true;
            lane = newLane;
            size = newSize;
            for (int c = 0; c < MOST_CELLS; c++) {
                cells[c] = 0;
            }
        }

        /** The fault of taking what is here as a row of a lane; 0: none. */
        int faultAs(int wanted) {
            if (!hasRow) {
                return FAULT_NULL;
            }
            return lane == wanted ? 0 : FAULT_CAST;
        }

        /** Whether n cells from i on are there; the size less i, since their sum could wrap. */
        boolean holds(int i, int n) {
            return hasRow && i >= 0 && i <= size && n >= 0 && n <= size - i;
        }

        int cut(int v) {
            if (lane == 0) {
                return (byte) v;
            }
            return lane == 1 ? (short) v : v;
        }
    }

    /** The people, where each is and who is buttoned to whom. */
    private static final class Duchy {
        private static final int[] COLUMNS_BY_WILL = {0, 1, 0, -1};
        private static final int[] ROWS_BY_WILL = {-1, 0, 1, 0};

        int count = 0;
        int noon = 0;
        int hour = 0;
        final int[] kind = new int[MOST_PEOPLE];
        final int[] step = new int[MOST_PEOPLE];
        final int[] will = new int[MOST_PEOPLE];
        /** NONE of who is not JOINED. */
        final int[] mate = new int[MOST_PEOPLE];
        final boolean[] front = new boolean[MOST_PEOPLE];
        final long[] column = new long[MOST_PEOPLE];
        final long[] row = new long[MOST_PEOPLE];

        /** All anew by a text that has no FIRST FAULT. */
        void found(Sheet text, int i, int n) {
            count = (n - TEXT_HEAD) / TEXT_PERSON;
            noon = text.cells[i + 1] - '0';
            hour = 0;
            for (int p = 0; p < count; p++) {
                int at = i + TEXT_HEAD + p * TEXT_PERSON;
                kind[p] = kindOf(text.cells[at + 1]);
                step[p] = text.cells[at + 2] - '0';
                will[p] = text.cells[at + 3] - '0';
                mate[p] = NONE;
                front[p] = false;
                column[p] = 0;
                row[p] = 0;
            }
        }

        private static int kindOf(int letter) {
            if (letter == 'f') {
                return FORE;
            }
            return letter == 'h' ? HIND : OLD;
        }

        void become(Duchy other) {
            count = other.count;
            noon = other.noon;
            hour = other.hour;
            for (int p = 0; p < MOST_PEOPLE; p++) {
                kind[p] = other.kind[p];
                step[p] = other.step[p];
                will[p] = other.will[p];
                mate[p] = other.mate[p];
                front[p] = other.front[p];
                column[p] = other.column[p];
                row[p] = other.row[p];
            }
        }

        boolean isNone() {
            return count == 0;
        }

        boolean isPerson(int p) {
            return p >= 0 && p < count;
        }

        boolean areTwo(int a, int b) {
            return isPerson(a) && isPerson(b) && a != b;
        }

        boolean isJoined(int p) {
            return isPerson(mate[p]);
        }

        int stride(int p) {
            switch (kind[p]) {
                case FORE:
                    return step[p];
                case HIND:
                    return step[p] + 1;
                default:
                    return step[p] / 2;
            }
        }

        int jarOf(int a, int b) {
            int turned = Math.abs(will[a] - will[b]);
            return Math.abs(stride(a) - stride(b)) + Math.min(turned, WILLS - turned);
        }

        boolean wouldRather(int p, int other) {
            if (mate[p] == other) {
                return false;
            }
            return !isJoined(p) || jarOf(p, other) < jarOf(p, mate[p]);
        }

        void button(int leader, int follower) {
            mate[leader] = follower;
            mate[follower] = leader;
            front[leader] = true;
            front[follower] = false;
            column[follower] = column[leader];
            row[follower] = row[leader];
        }

        /** Of one who is JOINED. */
        void unbutton(int p) {
            int other = mate[p];
            mate[p] = NONE;
            mate[other] = NONE;
            front[p] = false;
            front[other] = false;
        }

        int horses() {
            return Integer.bitCount(fronts());
        }

        int fronts() {
            int set = 0;
            for (int p = 0; p < count; p++) {
                if (front[p]) {
                    set |= 1 << p;
                }
            }
            return set;
        }

        int wayColumns(int leader, int follower) {
            return stride(leader) * COLUMNS_BY_WILL[will[leader]]
                    + stride(follower) / 2 * COLUMNS_BY_WILL[will[follower]];
        }

        int wayRows(int leader, int follower) {
            return stride(leader) * ROWS_BY_WILL[will[leader]]
                    + stride(follower) / 2 * ROWS_BY_WILL[will[follower]];
        }

        void passHour() {
            for (int p = 0; p < count; p++) {
                if (front[p] && isJoined(p)) {
                    int other = mate[p];
                    column[p] += wayColumns(p, other);
                    row[p] += wayRows(p, other);
                    column[other] = column[p];
                    row[other] = row[p];
                }
            }
            hour++;
            if (noon > 0 && hour % noon == 0) {
                changeFronts();
            }
        }

        private void changeFronts() {
            for (int p = 0; p < count; p++) {
                if (isJoined(p)) {
                    front[p] = !front[p];
                }
            }
        }

        boolean atOnePlace(int a, int b) {
            return column[a] == column[b] && row[a] == row[b];
        }

        boolean hasHorsesAtOnePlace() {
            for (int a = 0; a < count; a++) {
                for (int b = a + 1; b < count; b++) {
                    // A horse is counted by who is in front, so the two of one horse are never compared.
                    if (front[a] && front[b] && atOnePlace(a, b)) {
                        return true;
                    }
                }
            }
            return false;
        }

        long farFromStart() {
            long far = 0;
            for (int p = 0; p < count; p++) {
                far += Math.abs(column[p]) + Math.abs(row[p]);
            }
            return far;
        }

        /** How far the HORSE of p is from a place, behind so many hours of his own and of his mate's. */
        long farAfter(int p, int ownHours, int mateHours, int toColumn, int toRow) {
            int other = mate[p];
            long atColumn = column[p] + ownHours * wayColumns(p, other) + mateHours * wayColumns(other, p);
            long atRow = row[p] + ownHours * wayRows(p, other) + mateHours * wayRows(other, p);
            return Math.abs(atColumn - toColumn) + Math.abs(atRow - toRow);
        }
    }

    /** A day told, played in a duchy of its own that has become as all is now. */
    private static final class Day {
        final Duchy duchy = new Duchy();
        int crowdedHours = 0;

        /** The FIRST WRONG, or NONE: of acts that no refusal is due for. */
        int play(Sheet acts, int i, int n) {
            crowdedHours = 0;
            for (int act = 0; act < n; act++) {
                int first = acts.cells[i + 2 * act];
                int second = acts.cells[i + 2 * act + 1];
                if (!canBe(first, second)) {
                    return act;
                }
                carryOut(first, second);
            }
            return NONE;
        }

        private boolean canBe(int first, int second) {
            if (second < MOST_PEOPLE) {
                return duchy.areTwo(first, second) && !duchy.isJoined(first) && !duchy.isJoined(second);
            }
            return second != ACT_PART || duchy.isJoined(first);
        }

        private void carryOut(int first, int second) {
            if (second < MOST_PEOPLE) {
                duchy.button(first, second);
            } else if (second == ACT_HOURS) {
                passHours(first);
            } else if (second == ACT_PART) {
                duchy.unbutton(first);
            } else {
                duchy.will[first] = second - ACT_WILL;
            }
        }

        private void passHours(int hours) {
            for (int h = 0; h < hours; h++) {
                duchy.passHour();
                if (duchy.hasHorsesAtOnePlace()) {
                    crowdedHours++;
                }
            }
        }

        int answer(int what, int firstWrong) {
            if (what == 1) {
                return firstWrong;
            }
            if (firstWrong != NONE) {
                return -100 - firstWrong;
            }
            switch (what) {
                case 0:
                    return duchy.fronts();
                case 2:
                    return duchy.horses();
                case 3:
                    return crowdedHours;
                case 4:
                    return (int) duchy.farFromStart();
                default:
                    return duchy.isPerson(what - 10) ? duchy.mate[what - 10] : NONE;
            }
        }
    }

    /** What has been read of ways: who was in front, who behind, how many columns and rows it was. */
    private static final class Readings {
        int count = 0;
        final int[] front = new int[MOST_READINGS];
        final int[] behind = new int[MOST_READINGS];
        final int[] columns = new int[MOST_READINGS];
        final int[] rows = new int[MOST_READINGS];

        int add(int a, int b, int wayColumns, int wayRows) {
            int number = count;
            front[number] = a;
            behind[number] = b;
            columns[number] = wayColumns;
            rows[number] = wayRows;
            count++;
            return number;
        }

        private boolean allSo(Duchy duchy) {
            for (int r = 0; r < count; r++) {
                if (duchy.wayColumns(front[r], behind[r]) != columns[r]
                        || duchy.wayRows(front[r], behind[r]) != rows[r]) {
                    return false;
                }
            }
            return true;
        }

        /** Which of 0 .. below - 1 could be the trait of p: a row of the duchy, which is left changed. */
        int fitting(Duchy duchy, int[] trait, int p, int below) {
            int set = 0;
            for (int v = 0; v < below; v++) {
                trait[p] = v;
                if (allSo(duchy)) {
                    set |= 1 << v;
                }
            }
            return set;
        }
    }

    /** All people in twos, as many as can be, who jar least. */
    private static final class Matching {
        int leastJar = 0;
        final int[] best = new int[MOST_PEOPLE];
        private final int[] with = new int[MOST_PEOPLE];
        /** Who is with one before him, as far as the search has come: nobody, when it has ended. */
        private final boolean[] taken = new boolean[MOST_PEOPLE];

        void seek(Duchy duchy) {
            leastJar = Integer.MAX_VALUE;
            place(duchy, 0, 0, duchy.count % 2 == 1);
        }

        /**
         * Goes through the matches in the order of their rows, nobody being last of all, so that the first
         * of those that jar least is the one that is kept. The person is one further at every level.
         */
        private void place(Duchy duchy, int p, int jarred, boolean oneIsOver) {
            if (p >= duchy.count) {
                keep(jarred);
                return;
            }
            if (taken[p]) {
                place(duchy, p + 1, jarred, oneIsOver);
                return;
            }
            for (int other = p + 1; other < duchy.count; other++) {
                if (!taken[other]) {
                    taken[other] = true;
                    with[p] = other;
                    with[other] = p;
                    place(duchy, p + 1, jarred + duchy.jarOf(p, other), oneIsOver);
                    taken[other] = false;
                }
            }
            if (oneIsOver) {
                with[p] = NONE;
                place(duchy, p + 1, jarred, false);
            }
        }

        private void keep(int jarred) {
            if (jarred < leastJar) {
                leastJar = jarred;
                for (int p = 0; p < MOST_PEOPLE; p++) {
                    best[p] = with[p];
                }
            }
        }
    }
}
