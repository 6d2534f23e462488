/** One hue that is in one place of a land at a time, and goes where it is wished hardest. */
public final class BlueHue {
    public static final int NONE = -1000000, BAD = -1000001, STATE = -1000002, FULL = -1000003;

    private static final int FINDING = -1000010, FAULTY = -1000100;
    private static final int NULL = 1, PLACE = 2, KIND = 3, SIZE = 4, STORE = 5;
    private static final int WISHER = 0, GROWN = 1, WIDOW = 2, THIEF = 3, CHILD = 4, BUREAU = 5;

    /** As many PLACES, and as many WISHERS, as a LAND can have. */
    private static final int MOST = 6;
    private static final int ROADS = 10, NO_WAY = 9, DAY = 6, MOST_TIRED = 20, MOST_STRENGTH = 40;
    private static final int ROWS = 8, ITEMS = 40, TAPE = 120, ACTS = 24, IMAGES = 2;
    private static final int LAST_HOUR = 999, FAR_AHEAD = 60, NEAR_AHEAD = 24, TOLD = 12;
    private static final int ROUND = 100, TRACE = 16;

    private final Rows rows = new Rows();
    private final Tape tape = new Tape();
    private final Land land = new Land();
    private final Course now = new Course();
    private final Past past = new Past();
    /** What is foretold happens here, so that nothing of now becomes another. */
    private final Course probe = new Course();
    /**
     * A text is read into these, so that a FAULT leaves the LAND as it is. Of the draft it tells where the hue is and how
     * the WISHERS are told; no HOUR ever passes there, so all else is 0.
     */
    private final Land draftLand = new Land();
    private final Course draft = new Course();
    private final Land[] imageLands = new Land[IMAGES];
    private final Course[] imageCourses = new Course[IMAGES];
    private int imagesKept;
    private final long[] codes = new long[ROUND + 1];
    private final int[] bodies = new int[TRACE];
    private int bodiesBegun;
    private int latestFault;
    private int latestFinding;

    /** A new object: no LAND, no ROWS, an empty tape. */
    public BlueHue() {
        for (int k = 0; k < IMAGES; k++) {
            imageLands[k] = new Land();
            imageCourses[k] = new Course();
        }
    }

    // ---- rows

    public int row(int row, int lane, int n) {
        if (!isRow(row) || !within(lane, 0, 2) || n > ITEMS) {
            return BAD;
        }
        if (n < 0) {
            return found(SIZE);
        }
        rows.make(row, lane, n);
        return fine(n);
    }

    public int set(int row, int i, int v) {
        if (!isRow(row)) {
            return BAD;
        }
        int finding = rows.look(row, i, 1);
        if (finding != 0) {
            return found(finding);
        }
        return fine(rows.put(row, i, v));
    }

    public int copy(int a, int i, int b, int j, int n) {
        if (!isRow(a) || !isRow(b)) {
            return BAD;
        }
        if (rows.isMissing(a) || rows.isMissing(b)) {
            return found(NULL);
        }
        if (rows.lane[a] != rows.lane[b]) {
            return found(STORE);
        }
        if (rows.look(a, i, n) != 0 || rows.look(b, j, n) != 0) {
            return found(PLACE);
        }
        System.arraycopy(rows.items[a], i, rows.items[b], j, n);
        return fine(n);
    }

    public int drop(int row) {
        if (!isRow(row)) {
            return BAD;
        }
        if (rows.isMissing(row)) {
            return found(NULL);
        }
        int had = rows.size[row];
        rows.size[row] = Rows.MISSING;
        return fine(had);
    }

    // ---- what is told

    public int feed(int letter) {
        if (!within(letter, 0, 255)) {
            return BAD;
        }
        if (tape.length >= TAPE) {
            return FULL;
        }
        tape.bytes[tape.length] = letter;
        tape.length++;
        return tape.length;
    }

    public int land() {
        readText();
        tape.length = 0;
        if (tape.fault != 0) {
            latestFault = tape.fault;
            return FAULTY - tape.faultAt;
        }
        land.take(draftLand);
        now.take(draft);
        past.forget();
        return land.wishers;
    }

    public int fault() {
        return latestFault;
    }

    public int undo() {
        if (past.kept == 0) {
            return STATE;
        }
        past.goBack(now);
        return past.kept;
    }

    // ---- what is done

    public int hours(int n) {
        if (!hasLand()) {
            return STATE;
        }
        if (!within(n, 1, NEAR_AHEAD)) {
            return BAD;
        }
        if (now.hour + n > LAST_HOUR) {
            return FULL;
        }
        for (int k = 0; k < n; k++) {
            past.keep(now);
            now.pass(land);
        }
        return now.hue;
    }

    public int wish(int wisher, int place, int strength) {
        if (!isWisher(wisher) || !isPlace(place) || !within(strength, 0, MOST_STRENGTH)) {
            return BAD;
        }
        int before = 100 * now.aim[wisher] + now.strength[wisher];
        past.keep(now);
        now.aim[wisher] = place;
        now.strength[wisher] = strength;
        return before;
    }

    public int rest(int wisher, int on) {
        if (!isWisher(wisher) || !within(on, 0, 1)) {
            return BAD;
        }
        if (bit(now.rests, wisher) == on) {
            return STATE;
        }
        past.keep(now);
        now.rests ^= 1 << wisher;
        return Integer.bitCount(now.rests);
    }

    public int wisher(int wisher, int what) {
        if (!isWisher(wisher)) {
            return BAD;
        }
        switch (what) {
            case 0: return land.home[wisher];
            case 1: return now.aim[wisher];
            case 2: return now.strength[wisher];
            case 3: return now.tired[wisher];
            case 4: return bit(now.rests, wisher);
            case 5: return now.wishes(land, wisher) ? now.force(land, wisher) : 0;
            default: return BAD;
        }
    }

    public int place(int place, int what) {
        if (!hasLand()) {
            return STATE;
        }
        if (!isPlace(place)) {
            return BAD;
        }
        switch (what) {
            case 0:
                now.weigh(land);
                return now.pull[place];
            case 1: return bit(now.milk, place);
            case 2: return land.roadsFrom[place];
            default: return BAD;
        }
    }

    public int far(int a, int b) {
        if (!hasLand()) {
            return STATE;
        }
        if (!isPlace(a) || !isPlace(b)) {
            return BAD;
        }
        return land.way(a, b);
    }

    // ---- foretold

    public int ahead(int n, int what) {
        if (!hasLand()) {
            return STATE;
        }
        if (!within(n, 0, FAR_AHEAD) || !within(what, 0, 1)) {
            return BAD;
        }
        probe.take(now);
        probe.passMany(land, n);
        return what == 0 ? probe.hue : probe.went;
    }

    public int comes(int place, int n) {
        if (!hasLand()) {
            return STATE;
        }
        if (!isPlace(place) || !within(n, 1, FAR_AHEAD)) {
            return BAD;
        }
        probe.take(now);
        for (int behind = 0; behind < n; behind++) {
            if (probe.hue == place) {
                return behind;
            }
            probe.pass(land);
        }
        return probe.hue == place ? n : NONE;
    }

    public int visits(int n) {
        if (!hasLand()) {
            return STATE;
        }
        if (!within(n, 0, FAR_AHEAD)) {
            return BAD;
        }
        probe.take(now);
        int places = 1 << probe.hue;
        for (int k = 0; k < n; k++) {
            probe.pass(land);
            places |= 1 << probe.hue;
        }
        return places;
    }

    public int fewest(int place, int n, int what) {
        if (!hasLand()) {
            return STATE;
        }
        if (!isPlace(place) || !within(n, 1, NEAR_AHEAD) || !within(what, 0, 1)) {
            return BAD;
        }
        int many = MOST + 1;
        int which = 0;
        // Rising bits: of as few wishers, the least bits are met first.
        for (int chosen = 0; chosen <= land.everyone(); chosen++) {
            if (Integer.bitCount(chosen) < many && isThereBy(chosen, place, n)) {
                many = Integer.bitCount(chosen);
                which = chosen;
            }
        }
        if (many > MOST) {
            return NONE;
        }
        return what == 0 ? many : which;
    }

    public int hard(int wisher, int n) {
        if (!isWisher(wisher) || !within(n, 1, NEAR_AHEAD)) {
            return BAD;
        }
        for (int strength = 0; strength <= MOST_STRENGTH; strength++) {
            probe.take(now);
            probe.strength[wisher] = strength;
            probe.passMany(land, n);
            if (probe.hue == probe.aim[wisher]) {
                return strength;
            }
        }
        return NONE;
    }

    public int stolen(int place, int s, int n) {
        if (!hasLand()) {
            return STATE;
        }
        if (!isPlace(place) || !within(s, 0, 60) || !within(n, 1, NEAR_AHEAD)) {
            return BAD;
        }
        probe.take(now);
        int hours = 0;
        for (int k = 0; k < n; k++) {
            probe.weigh(land);
            probe.pull[place] += s;
            if (probe.goesTo(land) == place) {
                hours |= 1 << k;
            }
            probe.pass(land);
        }
        return hours;
    }

    public int seen(int row, int i, int n, int what) {
        if (!hasLand()) {
            return STATE;
        }
        if (!isRow(row) || !within(n, 1, TOLD) || !within(what, 0, 1)) {
            return BAD;
        }
        int finding = rows.look(row, i, n);
        if (finding != 0) {
            return found(finding);
        }
        int many = 0;
        int least = NONE;
        for (int place = land.places - 1; place >= 0; place--) {
            probe.take(now);
            probe.hue = place;
            if (comesAsTold(row, i, n)) {
                many++;
                least = place;
            }
        }
        return fine(what == 0 ? many : least);
    }

    public int who(int wisher, int row, int i, int n) {
        if (!isWisher(wisher) || !isRow(row) || !within(n, 1, TOLD)) {
            return BAD;
        }
        int finding = rows.look(row, i, n);
        if (finding != 0) {
            return found(finding);
        }
        int kinds = 0;
        for (int kind = GROWN; kind <= BUREAU; kind++) {
            probe.take(now);
            probe.become(wisher, kind);
            if (comesAsTold(row, i, n)) {
                kinds |= 1 << kind;
            }
        }
        return fine(kinds);
    }

    public int round(int what) {
        if (!hasLand()) {
            return STATE;
        }
        if (!within(what, 0, 1)) {
            return BAD;
        }
        probe.take(now);
        codes[0] = probe.code();
        for (int behind = 1; behind <= ROUND; behind++) {
            probe.pass(land);
            codes[behind] = probe.code();
            for (int fewer = 0; fewer < behind; fewer++) {
                if (codes[fewer] == codes[behind]) {
                    return what == 0 ? behind : fewer;
                }
            }
        }
        return NONE;
    }

    public int half(int n) {
        if (!hasLand()) {
            return STATE;
        }
        if (!within(n, 1, FAR_AHEAD)) {
            return BAD;
        }
        probe.take(now);
        for (int k = 0; k < n; k++) {
            probe.pass(land);
            if (probe.halved > now.halved) {
                return k;
            }
        }
        return NONE;
    }

    public long awake(int p, int what) {
        if (!hasLand()) {
            return STATE;
        }
        if (!within(p, 0, 10) || !within(what, 0, 1)) {
            return BAD;
        }
        int wishing = now.wishing(land);
        int many = Integer.bitCount(wishing);
        long cases = 0;
        probe.take(now);
        for (int waking = 0; waking <= wishing; waking++) {
            if ((waking & ~wishing) == 0 && goesBy(waking)) {
                int few = Integer.bitCount(waking);
                cases += power(p, few) * power(10 - p, many - few);
            }
        }
        long all = power(10, many);
        long common = commonDivisor(all, cases);
        long told = what == 0 ? cases : all;
        return common == 0 ? told : told / common;
    }

    public int drawn(int n, int seed, int what) {
        if (!hasLand()) {
            return STATE;
        }
        if (!within(n, 0, FAR_AHEAD) || !within(seed, 1, 999999) || !within(what, 0, 1)) {
            return BAD;
        }
        probe.take(now);
        long x = seed;
        for (int k = 0; k < n; k++) {
            x = x * 16807 % 2147483647;
            if (land.wishers > 0 && land.places > 0) {
                probe.aim[(int) (x % land.wishers)] = (int) (x % land.places);
            }
            probe.pass(land);
        }
        return what == 0 ? probe.hue : probe.went - now.went;
    }

    public int image(int k) {
        if (!within(k, 0, IMAGES - 1)) {
            return BAD;
        }
        if (!hasLand()) {
            return STATE;
        }
        imageLands[k].take(land);
        imageCourses[k].take(now);
        imagesKept |= 1 << k;
        return 1;
    }

    public int restore(int k) {
        if (!within(k, 0, IMAGES - 1)) {
            return BAD;
        }
        if (bit(imagesKept, k) == 0) {
            return STATE;
        }
        land.take(imageLands[k]);
        now.take(imageCourses[k]);
        past.forget();
        return 1;
    }

    // ---- asked

    public int kind(int one) {
        return isWisher(one) ? now.kind[one] : BAD;
    }

    public int as(int one, int kind) {
        if (!isWisher(one) || !within(kind, WISHER, BUREAU)) {
            return BAD;
        }
        return isA(now.kind[one], kind) ? fine(one) : found(KIND);
    }

    public int ask(int one, int what) {
        if (!isWisher(one) || !within(what, 0, 1)) {
            return BAD;
        }
        bodiesBegun = 0;
        boolean grown = isA(now.kind[one], GROWN);
        if (what == 0) {
            return grown ? grownSize(one) : childSize(one);
        }
        return grown ? grownMark(one) : childMark(one);
    }

    public int trace(int i) {
        return within(i, 0, bodiesBegun - 1) ? bodies[i] : NONE;
    }

    public int count(int what) {
        switch (what) {
            case 0: return rows.many();
            case 1: return land.places;
            case 2: return land.roads;
            case 3: return land.wishers;
            case 4: return now.hour;
            case 5: return hasLand() ? now.hue : -1;
            case 6: return now.went;
            case 7: return now.halved;
            case 8: return past.kept;
            case 9: return tape.length;
            default: return BAD;
        }
    }

    public int status() {
        return latestFinding;
    }

    // ---- what the calls look at

    private static boolean within(int n, int low, int high) {
        return n >= low && n <= high;
    }

    private static int bit(int bits, int i) {
        return bits >> i & 1;
    }

    private static boolean isRow(int row) {
        return within(row, 0, ROWS - 1);
    }

    private boolean hasLand() {
        return land.places > 0;
    }

    private boolean isPlace(int place) {
        return within(place, 0, land.places - 1);
    }

    private boolean isWisher(int wisher) {
        return within(wisher, 0, land.wishers - 1);
    }

    private int found(int finding) {
        latestFinding = finding;
        return FINDING - finding;
    }

    private int fine(int answer) {
        latestFinding = 0;
        return answer;
    }

    // ---- how it is foretold

    private boolean isThereBy(int chosen, int place, int n) {
        probe.take(now);
        probe.rests |= land.everyone() & ~chosen;
        probe.passMany(land, n);
        return probe.hue == place;
    }

    /** Whether the probe's hue comes by n HOURS as the ITEMS from i on tell. */
    private boolean comesAsTold(int row, int i, int n) {
        for (int k = 0; k < n; k++) {
            probe.pass(land);
            int told = rows.items[row][i + k];
            if (told != -1 && told != probe.hue) {
                return false;
            }
        }
        return true;
    }

    /** Whether the hue goes in this HOUR, if only these wishers are awake. */
    private boolean goesBy(int waking) {
        probe.rests = land.everyone() & ~waking;
        probe.weigh(land);
        return probe.goesTo(land) != probe.hue;
    }

    private static long power(int base, int times) {
        long product = 1;
        for (int k = 0; k < times; k++) {
            product *= base;
        }
        return product;
    }

    private static long commonDivisor(long a, long b) {
        // Two numbers of seven figures are through long before 100 rests.
        for (int k = 0; k < 100 && b != 0; k++) {
            long remains = a % b;
            a = b;
            b = remains;
        }
        return a;
    }

    // ---- a text is read

    private void readText() {
        tape.begin();
        draftLand.clear();
        readLaw();
        for (int part = 0; part < TAPE && tape.goesOn(); part++) {
            int letter = tape.next();
            if (letter == 'r' && draftLand.wishers == 0) {
                readRoad();
            } else {
                readWisher(sortOf(letter));
            }
        }
        draftLand.measure();
    }

    private void readLaw() {
        tape.expect('c');
        draftLand.places = tape.number(2, MOST);
        tape.expect(',');
        draft.hue = tape.number(0, draftLand.places - 1);
        tape.expect(',');
        draftLand.hold = tape.number(0, 20);
        tape.expect(',');
        draftLand.tires = tape.number(0, 5);
        tape.expect(';');
    }

    private void readRoad() {
        if (draftLand.roads >= ROADS) {
            tape.fail(3, tape.at);
            return;
        }
        tape.expect('r');
        int a = tape.number(0, draftLand.places - 1);
        tape.expect(',');
        int start = tape.at;
        int b = tape.number(0, draftLand.places - 1);
        if (tape.fault == 0 && !draftLand.joins(a, b)) {
            tape.fail(2, start);
        }
        tape.expect(';');
    }

    private void readWisher(int kind) {
        if (kind == WISHER) {
            tape.fail(1, tape.at);
            return;
        }
        int one = draftLand.wishers;
        if (one >= MOST) {
            tape.fail(3, tape.at);
            return;
        }
        tape.at++;
        draft.kind[one] = kind;
        draftLand.home[one] = tape.number(0, draftLand.places - 1);
        tape.expect(',');
        draft.aim[one] = tape.number(0, draftLand.places - 1);
        tape.expect(',');
        draft.strength[one] = tape.number(0, MOST_STRENGTH);
        tape.expect(',');
        draftLand.from[one] = tape.number(0, DAY - 1);
        tape.expect(',');
        draftLand.span[one] = tape.number(1, DAY);
        tape.expect(';');
        draftLand.wishers++;
    }

    /** The KIND that a letter tells; WISHER, which no letter tells, for any other. */
    private static int sortOf(int letter) {
        switch (letter) {
            case 'a': return GROWN;
            case 'w': return WIDOW;
            case 't': return THIEF;
            case 'k': return CHILD;
            case 'b': return BUREAU;
            default: return WISHER;
        }
    }

    // ---- bodies of asks

    private static boolean isA(int kind, int as) {
        switch (as) {
            case WISHER: return true;
            case GROWN: return kind == GROWN || kind == WIDOW || kind == THIEF;
            case CHILD: return kind == CHILD || kind == BUREAU;
            default: return kind == as;
        }
    }

    private void leave(int body) {
        if (bodiesBegun < TRACE) {
            bodies[bodiesBegun] = body;
            bodiesBegun++;
        }
    }

    /** SIZE, asked of a GROWN one. */
    private int grownSize(int one) {
        if (now.kind[one] == WIDOW) {
            leave(12);
            return -sizeOfGrown(one);
        }
        return sizeOfGrown(one);
    }

    private int sizeOfGrown(int one) {
        leave(11);
        int lent = lentSize(one);
        return lent + grownMark(one);
    }

    /** SIZE, asked of a CHILD. */
    private int childSize(int one) {
        if (now.kind[one] == BUREAU) {
            leave(14);
            return 2 * sizeOfChild(one);
        }
        return sizeOfChild(one);
    }

    private int sizeOfChild(int one) {
        leave(13);
        return lentSize(one) - 100;
    }

    private int lentSize(int one) {
        leave(10);
        return now.strength[one];
    }

    /** MARK, asked of a GROWN one. */
    private int grownMark(int one) {
        switch (now.kind[one]) {
            case WIDOW:
                leave(24);
                return 2 * markOfGrown(one);
            case THIEF:
                leave(22);
                return markOfGrown(one) - 1000;
            default:
                return markOfGrown(one);
        }
    }

    private int markOfGrown(int one) {
        leave(21);
        return lentMark(one) + now.tired[one];
    }

    /** MARK, asked of a CHILD. */
    private int childMark(int one) {
        leave(23);
        int lent = lentMark(one);
        return lent - childSize(one);
    }

    private int lentMark(int one) {
        leave(20);
        return one;
    }

    /** The ROWS, each with room for all ITEMS that it could have. */
    private static final class Rows {
        static final int MISSING = -1;

        final int[] lane = new int[ROWS];
        final int[] size = new int[ROWS];
        final int[][] items = new int[ROWS][ITEMS];

        Rows() {
            for (int row = 0; row < ROWS; row++) {
                size[row] = MISSING;
            }
        }

        boolean isMissing(int row) {
            return size[row] == MISSING;
        }

        int many() {
            int many = 0;
            for (int row = 0; row < ROWS; row++) {
                if (!isMissing(row)) {
                    many++;
                }
            }
            return many;
        }

        void make(int row, int itsLane, int n) {
            lane[row] = itsLane;
            size[row] = n;
            for (int i = 0; i < n; i++) {
                items[row][i] = 0;
            }
        }

        /** The FINDING of n ITEMS from i on; 0, if they are there. */
        int look(int row, int i, int n) {
            if (isMissing(row)) {
                return NULL;
            }
            // n is taken from the size, since i and n added could pass the greatest int.
            if (i < 0 || n < 0 || n > size[row] || i > size[row] - n) {
                return PLACE;
            }
            return 0;
        }

        int put(int row, int i, int v) {
            int kept = v;
            if (lane[row] == 0) {
                kept = (byte) v;
            } else if (lane[row] == 1) {
                kept = (short) v;
            }
            items[row][i] = kept;
            return kept;
        }
    }

    /** THE TAPE, and how it is read: behind the first FAULT nothing more is read. */
    private static final class Tape {
        final int[] bytes = new int[TAPE];
        int length;
        int at;
        int fault;
        int faultAt;

        void begin() {
            at = 0;
            fault = 0;
        }

        boolean goesOn() {
            return fault == 0 && at < length;
        }

        void fail(int number, int place) {
            if (fault == 0) {
                fault = number;
                faultAt = place;
            }
        }

        int byteAt(int i) {
            return i >= 0 && i < length && i < TAPE ? bytes[i] : -1;
        }

        int next() {
            return byteAt(at);
        }

        boolean isFigure(int i) {
            return within(byteAt(i), '0', '9');
        }

        void expect(int letter) {
            if (fault != 0) {
                return;
            }
            if (next() == letter) {
                at++;
            } else {
                fail(1, at);
            }
        }

        /** The NUMBER that stands here; 0 with a FAULT. */
        int number(int low, int high) {
            if (fault != 0) {
                return 0;
            }
            int figures = 0;
            int value = 0;
            while (figures < 3 && isFigure(at + figures)) {
                value = 10 * value + byteAt(at + figures) - '0';
                figures++;
            }
            if (figures == 0 || figures > 2) {
                fail(1, at);
                return 0;
            }
            if (!within(value, low, high)) {
                fail(2, at);
                return 0;
            }
            at += figures;
            return value;
        }
    }

    /** What a text tells of a LAND and no ACT changes; no PLACES: no LAND. */
    private static final class Land {
        int places;
        int hold;
        int tires;
        int roads;
        int wishers;
        final int[] roadsFrom = new int[MOST];
        final int[] ways = new int[MOST * MOST];
        final int[] home = new int[MOST];
        final int[] from = new int[MOST];
        final int[] span = new int[MOST];

        /** Ahead of a text; all else is told anew by its law and its wishers. */
        void clear() {
            roads = 0;
            wishers = 0;
            for (int place = 0; place < MOST; place++) {
                roadsFrom[place] = 0;
            }
        }

        void take(Land other) {
            places = other.places;
            hold = other.hold;
            tires = other.tires;
            roads = other.roads;
            wishers = other.wishers;
            System.arraycopy(other.roadsFrom, 0, roadsFrom, 0, MOST);
            System.arraycopy(other.ways, 0, ways, 0, MOST * MOST);
            System.arraycopy(other.home, 0, home, 0, MOST);
            System.arraycopy(other.from, 0, from, 0, MOST);
            System.arraycopy(other.span, 0, span, 0, MOST);
        }

        /** The WISHERS as bits. */
        int everyone() {
            return (1 << wishers) - 1;
        }

        int way(int a, int b) {
            return ways[MOST * a + b];
        }

        /** A road from a to b; false, and no road, if there can be none. */
        boolean joins(int a, int b) {
            if (a == b || bit(roadsFrom[a], b) == 1) {
                return false;
            }
            roadsFrom[a] |= 1 << b;
            roadsFrom[b] |= 1 << a;
            roads++;
            return true;
        }

        /** FAR between all PLACES, by ever more of them on the way. */
        void measure() {
            for (int a = 0; a < MOST; a++) {
                for (int b = 0; b < MOST; b++) {
                    int straight = bit(roadsFrom[a], b) == 1 ? 1 : NO_WAY;
                    ways[MOST * a + b] = a == b ? 0 : straight;
                }
            }
            for (int by = 0; by < MOST; by++) {
                for (int a = 0; a < MOST; a++) {
                    for (int b = 0; b < MOST; b++) {
                        int around = way(a, by) + way(by, b);
                        ways[MOST * a + b] = Math.min(way(a, b), around);
                    }
                }
            }
        }
    }

    /** What becomes another by ACTS: the hue, the HOUR, and how the WISHERS are. */
    private static final class Course {
        static final int HALVED = -1;

        int hour;
        int hue;
        int went;
        int halved;
        int milk;
        int rests;
        final int[] kind = new int[MOST];
        final int[] aim = new int[MOST];
        final int[] strength = new int[MOST];
        final int[] tired = new int[MOST];
        /** What weigh() found last; it is no part of what is kept. */
        final int[] pull = new int[MOST];

        void take(Course other) {
            hour = other.hour;
            hue = other.hue;
            went = other.went;
            halved = other.halved;
            milk = other.milk;
            rests = other.rests;
            System.arraycopy(other.kind, 0, kind, 0, MOST);
            System.arraycopy(other.aim, 0, aim, 0, MOST);
            System.arraycopy(other.strength, 0, strength, 0, MOST);
            System.arraycopy(other.tired, 0, tired, 0, MOST);
        }

        void become(int one, int another) {
            kind[one] = another;
            if (another == WIDOW) {
                tired[one] = 0;
            }
        }

        boolean wishes(Land land, int one) {
            int since = (hour + DAY - land.from[one]) % DAY;
            return since < land.span[one] && bit(rests, one) == 0;
        }

        /** Who WISHES in this HOUR, as bits. */
        int wishing(Land land) {
            int ones = 0;
            for (int one = 0; one < land.wishers; one++) {
                if (wishes(land, one)) {
                    ones |= 1 << one;
                }
            }
            return ones;
        }

        /** The WISH of one who WISHES in this HOUR. */
        int force(Land land, int one) {
            int child = Math.max(0, strength[one] - tired[one]);
            int grown = Math.max(0, strength[one] - land.way(land.home[one], aim[one]) - tired[one]);
            switch (kind[one]) {
                case THIEF: return hour % DAY >= 4 ? 2 * grown : 0;
                case CHILD: return child;
                case BUREAU: return child + 2 * (land.span[one] - 1);
                default: return grown;
            }
        }

        /** The PULL of each PLACE in this HOUR. */
        void weigh(Land land) {
            for (int place = 0; place < land.places; place++) {
                pull[place] = -2 * land.way(hue, place);
            }
            pull[hue] += land.hold;
            for (int one = 0; one < land.wishers; one++) {
                if (wishes(land, one)) {
                    pull[aim[one]] += force(land, one);
                }
            }
        }

        /** Where the hue goes by the PULL that was weighed, or stays; HALVED. */
        int decide(Land land) {
            int to = hue;
            boolean alike = false;
            for (int place = 0; place < land.places; place++) {
                if (pull[place] > pull[to]) {
                    to = place;
                    alike = false;
                } else if (place != to && pull[place] == pull[to]) {
                    alike = true;
                }
            }
            return alike && to != hue ? HALVED : to;
        }

        /** Where the hue is behind this HOUR, by the PULL that was weighed. */
        int goesTo(Land land) {
            int to = decide(land);
            return to == HALVED ? hue : to;
        }

        /** An HOUR. */
        void pass(Land land) {
            weigh(land);
            int to = decide(land);
            if (to == HALVED) {
                halved++;
            } else if (to != hue) {
                milk = (milk | 1 << hue) & ~(1 << to);
                hue = to;
                went++;
            }
            tire(land);
            hour++;
        }

        void passMany(Land land, int n) {
            for (int k = 0; k < n; k++) {
                pass(land);
            }
        }

        void tire(Land land) {
            for (int one = 0; one < land.wishers; one++) {
                int more = wishes(land, one) ? land.tires : -1;
                if (kind[one] != WIDOW) {
                    tired[one] = Math.max(0, Math.min(MOST_TIRED, tired[one] + more));
                }
            }
        }

        /** One number for the hue, what all are TIRED, and the HOUR by 6. */
        long code() {
            long code = DAY * hue + hour % DAY;
            for (int one = 0; one < MOST; one++) {
                code = code * (MOST_TIRED + 1) + tired[one];
            }
            return code;
        }
    }

    /** How it was ahead of each of the latest ACTS, in a ring. */
    private static final class Past {
        final Course[] ring = new Course[ACTS];
        int next;
        int kept;

        Past() {
            for (int k = 0; k < ACTS; k++) {
                ring[k] = new Course();
            }
        }

        void forget() {
            kept = 0;
        }

        void keep(Course course) {
            ring[next].take(course);
            next = (next + 1) % ACTS;
            kept = Math.min(ACTS, kept + 1);
        }

        void goBack(Course course) {
            next = (next + ACTS - 1) % ACTS;
            course.take(ring[next]);
            kept--;
        }
    }
}
