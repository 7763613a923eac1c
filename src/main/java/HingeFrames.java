import java.util.Arrays;

/**
 * Limits of frames of joints and stiff bars that give way by turns at their ends.
 * Every answer is exact: fractions are kept as pairs of whole numbers.
 */
public final class HingeFrames {
    public static final int NONE = -1;

    private static final int NOTHING = -2;
    private static final int NO_PLACE = -1000;
    private static final long NO_TURN = -1000000000000L;
    private static final int JOINTS = 7;
    private static final int BARS = 7;
    private static final int ENDS = 14;
    private static final int CASES = 6;
    private static final int MOVES = 21;
    private static final int GROUPS = 3;
    private static final int LISTED = 6;
    private static final int STRONGEST = 1000;
    private static final int WIDEST = 6;
    private static final int HEAVIEST = 100;
    private static final int FARTHEST = 10000;
    private static final int TAPE = 200;
    private static final int UNDONE = 60;
    private static final int ALONG = 1;
    private static final int UP = 2;
    private static final int TURNED = 4;
    /** A whole multiple of every LENGTH: TURNS times this are whole for whole MOVES. */
    private static final int PARTS = 60;
    /** No set of 14 ENDS holds more sets of which none lies in another: 14 over 7; of 12: 12 over 6. */
    private static final int FALLS_OF_ALL = 3432;
    private static final int FALLS_OF_LESS = 924;

    private final History history = new History();
    private final Tape tape = new Tape();
    private final Falls whole = new Falls(FALLS_OF_ALL);
    private final Falls lessOne = new Falls(FALLS_OF_LESS);
    private final Limit[] limits = new Limit[CASES];
    private final Limit other = new Limit();
    private final Metal metals = new Metal();
    private final int[] listed = new int[LISTED];
    private final long[] told = new long[ENDS];
    private int listSize;
    private long boundAbove;
    private long boundBelow;
    /** Counts all that can change an answer, so that kept answers are known to be old. */
    private int stamp;

    public HingeFrames() {
        for (int c = 0; c < CASES; c++) {
            limits[c] = new Limit();
        }
    }

    public int joint(int x, int y, int held) {
        Frame now = history.now();
        if (!within(x, 0, WIDEST) || !within(y, 0, WIDEST) || !within(held, 0, ALONG + UP + TURNED)) {
            return NONE;
        }
        if (now.joints >= JOINTS || now.isTaken(x, y)) {
            return NONE;
        }
        return act().addJoint(x, y, held);
    }

    public int bar(int a, int b, int p, int q) {
        Frame now = history.now();
        if (!now.canJoin(a, b) || !isStrength(p) || !isStrength(q) || now.bars >= BARS) {
            return NONE;
        }
        return act().addBar(a, b, p, q);
    }

    public boolean pin(int e, boolean is) {
        Frame now = history.now();
        if (!now.hasEnd(e) || now.isPinned(e) == is) {
            return false;
        }
        act().pinned ^= 1 << e;
        return true;
    }

    public boolean strength(int b, int p, int q) {
        if (!history.now().hasBar(b) || !isStrength(p) || !isStrength(q)) {
            return false;
        }
        Frame next = act();
        next.p[b] = p;
        next.q[b] = q;
        return true;
    }

    public boolean load(int c, int j, int x, int y) {
        if (!isCase(c) || !history.now().hasJoint(j) || !isLoad(x) || !isLoad(y)) {
            return false;
        }
        Frame next = act();
        next.loadX[c * JOINTS + j] = x;
        next.loadY[c * JOINTS + j] = y;
        return true;
    }

    public boolean group(int b, int g) {
        if (!history.now().hasBar(b) || !within(g, 0, GROUPS - 1)) {
            return false;
        }
        act().group[b] = g;
        return true;
    }

    public int feed(int a, int b, int c, int d, int e) {
        if (tape.size + 20 > TAPE) {
            return NONE;
        }
        tape.push(a);
        tape.push(b);
        tape.push(c);
        tape.push(d);
        tape.push(e);
        return tape.size;
    }

    public int sheet(int n) {
        Frame now = history.now();
        if (!within(n, 1, BARS) || now.bars + n > BARS || tape.size < 4 * n) {
            return NONE;
        }
        int bad = firstBadByte(now, n);
        if (bad == NONE) {
            Frame next = act();
            for (int i = 0; i < n; i++) {
                next.addBar(tape.byteAt(4 * i), tape.byteAt(4 * i + 1), tape.byteAt(4 * i + 2), tape.byteAt(4 * i + 3));
            }
        }
        tape.size = 0;
        return bad == NONE ? history.now().bars : -10 - bad;
    }

    private int firstBadByte(Frame now, int n) {
        for (int i = 0; i < n; i++) {
            int a = tape.byteAt(4 * i);
            int b = tape.byteAt(4 * i + 1);
            if (!now.hasJoint(a)) {
                return 4 * i;
            }
            if (!now.canJoin(a, b)) {
                return 4 * i + 1;
            }
        }
        return NONE;
    }

    public int free(int what) {
        if (!within(what, 0, 2)) {
            return NONE;
        }
        Shape shape = wholeShape();
        if (what == 0) {
            return shape.ends - shape.rank;
        }
        return what == 1 ? shape.moves - shape.rank : shape.rank;
    }

    public int falls(int c) {
        if (c != NONE && !isCase(c)) {
            return NONE;
        }
        Falls all = wholeFalls();
        if (c == NONE) {
            return 2 * all.size;
        }
        if (!all.shape.takeCase(history.now(), c)) {
            return NONE;
        }
        return all.countWorking();
    }

    public long greatest(int c, int what) {
        if (!isCase(c) || !isPart(what)) {
            return NONE;
        }
        return limitOf(wholeFalls(), c).tell(what);
    }

    public long fall(int c, int e) {
        if (!isCase(c) || !history.now().hasEnd(e)) {
            return NO_TURN;
        }
        Limit limit = limitOf(wholeFalls(), c);
        return limit.fall == NONE ? NO_TURN : limit.sign * whole.turnOfEnd(limit.fall, e);
    }

    public int only(int c) {
        if (!isCase(c)) {
            return NONE;
        }
        Limit limit = limitOf(wholeFalls(), c);
        if (limit.fall == NONE) {
            return NONE;
        }
        return limit.alike == 1 ? 1 : 0;
    }

    public long worth(int c, int b, int what) {
        Frame now = history.now();
        if (!isCase(c) || !now.hasBar(b) || !isPart(what)) {
            return NONE;
        }
        Falls all = wholeFalls();
        other.takeStrengths(all.shape, now, b);
        other.seekCase(all, now, c);
        return other.tell(what);
    }

    public int bends(int c, int n, int d) {
        Frame now = history.now();
        if (!isCase(c) || !within(n, -1000000, 1000000) || !within(d, 1, 1000) || tape.size < 8 * now.bars) {
            return NONE;
        }
        Shape shape = wholeShape();
        boolean rightPins = takeTold(shape, now);
        tape.size = 0;
        shape.takeCase(now, c);
        if (!rightPins || !shape.isBalanced(told, n, d)) {
            return 1;
        }
        return shape.isWithin(told, now) ? 0 : 2;
    }

    public int turning(int c) {
        Frame now = history.now();
        if (!isCase(c) || tape.size < 8 * now.bars) {
            return NONE;
        }
        Shape shape = wholeShape();
        boolean rightPins = takeTold(shape, now);
        tape.size = 0;
        if (!rightPins || !areTurns(shape.ends) || !shape.canBe(told)) {
            return 1;
        }
        if (!shape.takeCase(now, c)) {
            return 2;
        }
        long work = shape.workOfTurns(told);
        if (work <= 0) {
            return 2;
        }
        other.takeStrengths(shape, now, NONE);
        other.setFraction(other.bearsOfTurns(told, shape.ends), work, shape.scale);
        boundAbove = other.above;
        boundBelow = other.below;
        return 0;
    }

    /** The tape's numbers of ENDS that bear bends go to told; whether those of PINNED ENDS are 0. */
    private boolean takeTold(Shape shape, Frame now) {
        boolean right = true;
        for (int e = 0; e < 2 * now.bars; e++) {
            if (now.isPinned(e)) {
                right = right && tape.wordAt(e) == 0;
            }
        }
        for (int i = 0; i < shape.ends; i++) {
            told[i] = tape.wordAt(shape.end[i]);
        }
        return right;
    }

    private boolean areTurns(int n) {
        for (int i = 0; i < n && i < ENDS; i++) {
            if (told[i] < -FARTHEST || told[i] > FARTHEST) {
                return false;
            }
        }
        return true;
    }

    public long bound(int what) {
        if (!isPart(what) || boundBelow == 0) {
            return NONE;
        }
        return what == 0 ? boundAbove : boundBelow;
    }

    public int rolls(int x, int y, int set) {
        Frame now = history.now();
        if (!isLoad(x) || !isLoad(y) || !within(set, 1, (1 << now.joints) - 1)) {
            return NONE;
        }
        Falls all = wholeFalls();
        other.takeStrengths(all.shape, now, NONE);
        int at = NOTHING;
        long above = 0;
        long below = 1;
        for (int j = 0; j < now.joints; j++) {
            if ((set >> j & 1) == 0) {
                continue;
            }
            other.seekRoll(all, j, x, y);
            if (other.below != 0 && (at == NOTHING || Whole.compareFractions(other.above, other.below, above, below) < 0)) {
                at = j;
                above = other.above;
                below = other.below;
            }
        }
        return at;
    }

    public long out(int c, int b, int what) {
        Frame now = history.now();
        if (!isCase(c) || !now.hasBar(b) || !isPart(what)) {
            return NONE;
        }
        lessOne.prepareShape(now, b);
        lessOne.gather();
        other.takeStrengths(lessOne.shape, now, NONE);
        other.seekCase(lessOne, now, c);
        return other.tell(what);
    }

    public boolean list(int n) {
        if (!within(n, 1, LISTED) || tape.size < 4 * n) {
            return false;
        }
        boolean grows = true;
        for (int i = 0; i < n; i++) {
            int s = tape.wordAt(i);
            grows = grows && isStrength(s) && (i == 0 || s > tape.wordAt(i - 1));
        }
        if (grows) {
            stamp++;
            listSize = n;
            for (int i = 0; i < n; i++) {
                listed[i] = tape.wordAt(i);
            }
        }
        tape.size = 0;
        return grows;
    }

    public long metal(int cases, int what) {
        if (!within(cases, 1, (1 << CASES) - 1) || !within(what, NONE, GROUPS - 1) || listSize == 0) {
            return NONE;
        }
        if (metals.stamp != stamp || metals.cases != cases) {
            metals.stamp = stamp;
            metals.cases = cases;
            metals.solve(wholeFalls(), history.now(), listed, listSize);
        }
        if (!metals.found) {
            return NOTHING;
        }
        return what == NONE ? metals.cost : metals.chosen[what];
    }

    public int undo() {
        if (history.back == 0) {
            return NONE;
        }
        stamp++;
        history.goBack();
        return history.back;
    }

    public int redo() {
        if (history.ahead == 0) {
            return NONE;
        }
        stamp++;
        history.goAhead();
        return history.ahead;
    }

    public int look(int b, int what) {
        Frame now = history.now();
        if (!now.hasBar(b)) {
            return NONE;
        }
        switch (what) {
            case 0: return now.first[b];
            case 1: return now.second[b];
            case 2: return now.p[b];
            case 3: return now.q[b];
            case 4: return now.group[b];
            case 5: return now.lengthOf(b);
            case 6: return now.isPinned(2 * b) ? 1 : 0;
            case 7: return now.isPinned(2 * b + 1) ? 1 : 0;
            default: return NONE;
        }
    }

    public int place(int j, int what) {
        Frame now = history.now();
        if (!now.hasJoint(j)) {
            return NO_PLACE;
        }
        if (within(what, 10, 9 + 2 * CASES)) {
            int at = (what - 10) / 2 * JOINTS + j;
            return what % 2 == 0 ? now.loadX[at] : now.loadY[at];
        }
        switch (what) {
            case 0: return now.x[j];
            case 1: return now.y[j];
            case 2: return now.held[j];
            default: return NO_PLACE;
        }
    }

    public int count(int what) {
        switch (what) {
            case 0: return history.now().joints;
            case 1: return history.now().bars;
            case 2: return tape.size;
            case 3: return history.back;
            case 4: return history.ahead;
            case 5: return listSize;
            default: return NONE;
        }
    }

    private Frame act() {
        stamp++;
        return history.begin();
    }

    private Shape wholeShape() {
        whole.prepareShape(history.now(), NONE);
        return whole.shape;
    }

    private Falls wholeFalls() {
        whole.prepareShape(history.now(), NONE);
        whole.gather();
        return whole;
    }

    private Limit limitOf(Falls all, int c) {
        Limit limit = limits[c];
        if (limit.stamp != stamp) {
            limit.stamp = stamp;
            limit.takeStrengths(all.shape, history.now(), NONE);
            limit.seekCase(all, history.now(), c);
        }
        return limit;
    }

    private static boolean within(int n, int least, int most) {
        return n >= least && n <= most;
    }

    private static boolean isStrength(int s) {
        return within(s, 0, STRONGEST);
    }

    private static boolean isLoad(int s) {
        return within(s, -HEAVIEST, HEAVIEST);
    }

    private static boolean isCase(int c) {
        return within(c, 0, CASES - 1);
    }

    private static boolean isPart(int what) {
        return within(what, 0, 1);
    }

    /** Whole numbers: common divisors, fractions, rows of them. */
    private static final class Whole {
        private Whole() {
        }

        static long commonDivisor(long a, long b) {
            long m = a < 0 ? -a : a;
            long n = b < 0 ? -b : b;
            for (int i = 0; i < 128 && n != 0; i++) {
                long rest = m % n;
                m = n;
                n = rest;
            }
            return m;
        }

        static long commonMultiple(long a, long b) {
            long g = commonDivisor(a, b);
            return g == 0 ? 0 : a / g * b;
        }

        /** a / b against c / d, for a, c from 0 and b, d from 1 on: step by step, as products may be too great. */
        static int compareFractions(long a, long b, long c, long d) {
            if ((a | b | c | d) >>> 31 == 0) {
                return Long.compare(a * d, c * b);
            }
            long m = a;
            long n = b;
            long s = c;
            long t = d;
            for (int i = 0; i < 128 && n != 0 && t != 0; i++) {
                if (m / n != s / t) {
                    return Long.compare(m / n, s / t);
                }
                long left = m % n;
                long right = s % t;
                if (left == 0 || right == 0) {
                    return Long.compare(left, right);
                }
                m = t;
                s = n;
                n = right;
                t = left;
            }
            return 0;
        }

        /** Takes so much of the row by from the row that it is 0 at that place, in least whole numbers. */
        static void clearAt(long[] row, long[] by, int place, int width) {
            long g = commonDivisor(row[place], by[place]);
            if (row[place] == 0 || g == 0) {
                return;
            }
            long keep = by[place] / g;
            long take = row[place] / g;
            for (int i = 0; i < width; i++) {
                row[i] = keep * row[i] - take * by[i];
            }
            makeLeast(row, width);
        }

        static void makeLeast(long[] row, int width) {
            long g = 0;
            for (int i = 0; i < width && g != 1; i++) {
                if (row[i] != 0) {
                    g = commonDivisor(row[i], g);
                }
            }
            if (g > 1) {
                for (int i = 0; i < width; i++) {
                    row[i] /= g;
                }
            }
        }
    }

    /** The bytes that were fed and not yet used. */
    private static final class Tape {
        final int[] bytes = new int[TAPE];
        int size;

        void push(int word) {
            for (int shift = 24; shift >= 0 && size < TAPE; shift -= 8) {
                bytes[size] = word >> shift & 255;
                size++;
            }
        }

        int byteAt(int i) {
            return i >= 0 && i < size ? bytes[i] : 0;
        }

        int wordAt(int i) {
            return byteAt(4 * i) << 24 | byteAt(4 * i + 1) << 16 | byteAt(4 * i + 2) << 8 | byteAt(4 * i + 3);
        }
    }

    /** All that acts change and UNDO brings back. */
    private static final class Frame {
        int joints;
        int bars;
        /** A bit for each END that is PINNED. */
        int pinned;
        final int[] x = new int[JOINTS];
        final int[] y = new int[JOINTS];
        final int[] held = new int[JOINTS];
        final int[] first = new int[BARS];
        final int[] second = new int[BARS];
        final int[] p = new int[BARS];
        final int[] q = new int[BARS];
        final int[] group = new int[BARS];
        final int[] loadX = new int[CASES * JOINTS];
        final int[] loadY = new int[CASES * JOINTS];

        void copy(Frame from) {
            copyShape(from);
            System.arraycopy(from.p, 0, p, 0, BARS);
            System.arraycopy(from.q, 0, q, 0, BARS);
            System.arraycopy(from.group, 0, group, 0, BARS);
            System.arraycopy(from.loadX, 0, loadX, 0, CASES * JOINTS);
            System.arraycopy(from.loadY, 0, loadY, 0, CASES * JOINTS);
        }

        void copyShape(Frame from) {
            joints = from.joints;
            bars = from.bars;
            pinned = from.pinned;
            System.arraycopy(from.x, 0, x, 0, JOINTS);
            System.arraycopy(from.y, 0, y, 0, JOINTS);
            System.arraycopy(from.held, 0, held, 0, JOINTS);
            System.arraycopy(from.first, 0, first, 0, BARS);
            System.arraycopy(from.second, 0, second, 0, BARS);
        }

        boolean hasShapeOf(Frame f) {
            if (joints != f.joints || bars != f.bars || pinned != f.pinned) {
                return false;
            }
            for (int j = 0; j < joints; j++) {
                if (x[j] != f.x[j] || y[j] != f.y[j] || held[j] != f.held[j]) {
                    return false;
                }
            }
            for (int b = 0; b < bars; b++) {
                if (first[b] != f.first[b] || second[b] != f.second[b]) {
                    return false;
                }
            }
            return true;
        }

        int addJoint(int px, int py, int how) {
            if (joints >= JOINTS) {
                return NONE;
            }
            x[joints] = px;
            y[joints] = py;
            held[joints] = how;
            joints++;
            return joints - 1;
        }

        int addBar(int a, int b, int above, int below) {
            if (bars >= BARS) {
                return NONE;
            }
            first[bars] = a;
            second[bars] = b;
            p[bars] = above;
            q[bars] = below;
            group[bars] = 0;
            bars++;
            return bars - 1;
        }

        boolean hasJoint(int j) {
            return j >= 0 && j < joints;
        }

        boolean hasBar(int b) {
            return b >= 0 && b < bars;
        }

        boolean hasEnd(int e) {
            return e >= 0 && e < 2 * bars;
        }

        boolean isPinned(int e) {
            return (pinned >> e & 1) != 0;
        }

        boolean isTaken(int px, int py) {
            for (int j = 0; j < joints; j++) {
                if (x[j] == px && y[j] == py) {
                    return true;
                }
            }
            return false;
        }

        boolean canJoin(int a, int b) {
            return hasJoint(a) && hasJoint(b) && a != b && (x[a] == x[b] || y[a] == y[b]);
        }

        boolean isAlong(int b) {
            return y[first[b]] == y[second[b]];
        }

        int lengthOf(int b) {
            return Math.abs(x[first[b]] - x[second[b]]) + Math.abs(y[first[b]] - y[second[b]]);
        }

        int jointOf(int e) {
            return e % 2 == 0 ? first[e / 2] : second[e / 2];
        }

        /** The JOINT of a BAR that lies farther along x or up y. */
        int farJoint(int b) {
            int a = first[b];
            int z = second[b];
            return x[z] > x[a] || y[z] > y[a] ? z : a;
        }
    }

    /** A ring of frames: that of now, those that UNDO goes back to, those that REDO goes on to. */
    private static final class History {
        final Frame[] frames = new Frame[UNDONE + 1];
        int at;
        int back;
        int ahead;

        History() {
            for (int i = 0; i <= UNDONE; i++) {
                frames[i] = new Frame();
            }
        }

        Frame now() {
            return frames[at];
        }

        /** The frame of the next act, alike at first; the oldest one's place is used when the ring is full. */
        Frame begin() {
            int next = at == UNDONE ? 0 : at + 1;
            frames[next].copy(frames[at]);
            at = next;
            back = Math.min(back + 1, UNDONE);
            ahead = 0;
            return frames[at];
        }

        void goBack() {
            if (back > 0) {
                at = at == 0 ? UNDONE : at - 1;
                back--;
                ahead++;
            }
        }

        void goAhead() {
            if (ahead > 0) {
                at = at == UNDONE ? 0 : at + 1;
                ahead--;
                back++;
            }
        }
    }

    /** The MOVES of a frame by numbers that are free to choose, and the TURNS that they bring. */
    private static final class Shape {
        /** The ENDS that are not PINNED, lowest first; ENDS are counted by their place here. */
        final int[] end = new int[ENDS];
        int ends;
        int moves;
        /** Which of the free numbers is u, v, t of a JOINT; NONE: it is 0. */
        final int[] alongOf = new int[JOINTS];
        final int[] upOf = new int[JOINTS];
        final int[] turnOf = new int[JOINTS];
        final int[] label = new int[JOINTS];
        /** The TURN of an END, times PARTS, by 1 of each free number. */
        final long[][] turn = new long[ENDS][MOVES];
        /** Sums of MOVES, each with its TURNS times PARTS first: rank ones with a pivot END each, then LOOSE ones. */
        final long[][] row = new long[MOVES][ENDS + MOVES];
        final int[] pivot = new int[ENDS];
        int rank;
        /** WORK of TURNS, times scale, is the sum of gain times load times the TURN of the pivot END. */
        long scale;
        final long[][] gain = new long[ENDS][MOVES];
        final long[] load = new long[MOVES];
        final long[] weight = new long[ENDS];
        final long[] rest = new long[ENDS];

        void build(Frame f, int without) {
            moves = 0;
            numberSlides(f, without, true);
            numberSlides(f, without, false);
            for (int j = 0; j < f.joints; j++) {
                turnOf[j] = (f.held[j] & TURNED) == 0 ? moves++ : NONE;
            }
            ends = 0;
            for (int e = 0; e < 2 * f.bars; e++) {
                if (e / 2 != without && !f.isPinned(e)) {
                    end[ends] = e;
                    ends++;
                }
            }
            fillTurns(f);
            fillRows();
            reduceRows();
            fillGains();
        }

        /** JOINTS that BARS tie together go alike: one number for each such class, none if one of it is HELD. */
        private void numberSlides(Frame f, int without, boolean along) {
            int[] of = along ? alongOf : upOf;
            for (int j = 0; j < f.joints; j++) {
                label[j] = j;
            }
            for (int b = 0; b < f.bars; b++) {
                if (b != without && f.isAlong(b) == along) {
                    mergeLabels(label[f.first[b]], label[f.second[b]], f.joints);
                }
            }
            for (int j = 0; j < f.joints; j++) {
                if (label[j] != j) {
                    of[j] = of[label[j]];
                } else {
                    of[j] = isClassHeld(f, j, along ? ALONG : UP) ? NONE : moves++;
                }
            }
        }

        /** The lower label stays, so that a class bears the number of its lowest JOINT. */
        private void mergeLabels(int a, int b, int joints) {
            int stays = Math.min(a, b);
            int goes = Math.max(a, b);
            for (int j = 0; j < joints; j++) {
                if (label[j] == goes) {
                    label[j] = stays;
                }
            }
        }

        private boolean isClassHeld(Frame f, int lowest, int bit) {
            for (int j = 0; j < f.joints; j++) {
                if (label[j] == lowest && (f.held[j] & bit) != 0) {
                    return true;
                }
            }
            return false;
        }

        private void fillTurns(Frame f) {
            for (int i = 0; i < ends; i++) {
                Arrays.fill(turn[i], 0L);
                int b = end[i] / 2;
                int far = f.farJoint(b);
                int near = f.first[b] == far ? f.second[b] : f.first[b];
                int length = f.lengthOf(b);
                int step = length > 0 ? PARTS / length : 0;
                addTurn(i, turnOf[f.jointOf(end[i])], PARTS);
                if (f.isAlong(b)) {
                    addTurn(i, upOf[far], -step);
                    addTurn(i, upOf[near], step);
                } else {
                    addTurn(i, alongOf[far], step);
                    addTurn(i, alongOf[near], -step);
                }
            }
        }

        private void addTurn(int i, int move, int by) {
            if (move != NONE) {
                turn[i][move] += by;
            }
        }

        private void fillRows() {
            for (int k = 0; k < moves; k++) {
                Arrays.fill(row[k], 0L);
                for (int i = 0; i < ends; i++) {
                    row[k][i] = turn[i][k];
                }
                row[k][ends + k] = 1;
            }
        }

        /**
         * Each pivot END turns in its own row alone; pivots are the last ENDS that can be, the highest
         * first. Rows stay in least whole numbers, so that none grows great.
         */
        private void reduceRows() {
            rank = 0;
            for (int i = ends - 1; i >= 0; i--) {
                int found = firstRowThatTurns(i);
                if (found == NONE) {
                    continue;
                }
                long[] by = row[found];
                row[found] = row[rank];
                row[rank] = by;
                for (int k = 0; k < moves; k++) {
                    if (k != rank) {
                        Whole.clearAt(row[k], by, i, ends + moves);
                    }
                }
                pivot[rank] = i;
                rank++;
            }
        }

        private int firstRowThatTurns(int i) {
            for (int k = rank; k < moves; k++) {
                if (row[k][i] != 0) {
                    return k;
                }
            }
            return NONE;
        }

        private void fillGains() {
            scale = 1;
            for (int i = 0; i < rank; i++) {
                long below = row[i][pivot[i]];
                for (int k = 0; k < moves; k++) {
                    long g = Whole.commonDivisor(PARTS * row[i][ends + k], below);
                    if (g != 0) {
                        scale = Math.abs(Whole.commonMultiple(scale, below / g));
                    }
                }
            }
            for (int i = 0; i < rank; i++) {
                for (int k = 0; k < moves; k++) {
                    gain[i][k] = scaled(PARTS * row[i][ends + k], row[i][pivot[i]]);
                }
            }
        }

        /** above / below times scale, which all these fractions divide. */
        private long scaled(long above, long below) {
            long g = Whole.commonDivisor(above, below);
            if (g == 0 || below / g == 0) {
                return 0;
            }
            return above / g * (scale / (below / g));
        }

        /** Loads by a CASE from now on; false: LOOSE MOVES have WORK of it. */
        boolean takeCase(Frame f, int c) {
            Arrays.fill(load, 0L);
            for (int j = 0; j < f.joints; j++) {
                addLoad(j, f.loadX[c * JOINTS + j], f.loadY[c * JOINTS + j]);
            }
            return weigh();
        }

        /** A LOAD at one JOINT alone from now on; false: LOOSE MOVES have WORK of it. */
        boolean takeRoll(int j, int x, int y) {
            Arrays.fill(load, 0L);
            addLoad(j, x, y);
            return weigh();
        }

        private void addLoad(int j, int x, int y) {
            if (alongOf[j] != NONE) {
                load[alongOf[j]] += x;
            }
            if (upOf[j] != NONE) {
                load[upOf[j]] += y;
            }
        }

        private boolean weigh() {
            for (int i = 0; i < rank; i++) {
                weight[i] = 0;
                for (int k = 0; k < moves; k++) {
                    weight[i] += load[k] * gain[i][k];
                }
            }
            for (int i = rank; i < moves; i++) {
                long work = 0;
                for (int k = 0; k < moves; k++) {
                    work += load[k] * row[i][ends + k];
                }
                if (work != 0) {
                    return false;
                }
            }
            return true;
        }

        /** WORK of TURNS, times scale. */
        long workOfTurns(long[] turns) {
            long work = 0;
            for (int i = 0; i < rank; i++) {
                work += weight[i] * turns[pivot[i]];
            }
            return work;
        }

        boolean isBalanced(long[] bends, long n, long d) {
            for (int k = 0; k < moves; k++) {
                long sum = 0;
                for (int i = 0; i < ends; i++) {
                    sum += bends[i] * turn[i][k];
                }
                if (sum * d != load[k] * n * PARTS) {
                    return false;
                }
            }
            return true;
        }

        boolean isWithin(long[] bends, Frame f) {
            for (int i = 0; i < ends; i++) {
                int b = end[i] / 2;
                if (bends[i] > f.p[b] || bends[i] < -f.q[b]) {
                    return false;
                }
            }
            return true;
        }

        /** Whether nothing of the TURNS is left when each pivot END's own row is taken from them. */
        boolean canBe(long[] turns) {
            System.arraycopy(turns, 0, rest, 0, ENDS);
            for (int i = 0; i < rank; i++) {
                Whole.clearAt(rest, row[i], pivot[i], ends);
            }
            for (int i = 0; i < ends; i++) {
                if (rest[i] != 0) {
                    return false;
                }
            }
            return true;
        }
    }

    /** All PLAIN FALLS of a frame, of each and it turned round one. */
    private static final class Falls {
        final Shape shape = new Shape();
        final Frame seen = new Frame();
        int seenWithout = NONE;
        boolean isShaped;
        boolean isGathered;
        final int room;
        int size;
        /** TURNS of the falls, ENDS numbers each, and which of them are not 0, as bits. */
        final long[] turns;
        final int[] mask;
        /** Rows that span all TURNS that are 0 at the ENDS chosen so far: ENDS rows for each depth. */
        final long[][] span = new long[ENDS * ENDS][ENDS];
        /** The pivot END of each of these rows: at each depth the last ENDS that can be, the lowest first. */
        final int[] lead = new int[ENDS * ENDS];

        Falls(int room) {
            this.room = room;
            turns = new long[room * ENDS];
            mask = new int[room];
        }

        void prepareShape(Frame f, int without) {
            if (isShaped && without == seenWithout && seen.hasShapeOf(f)) {
                return;
            }
            seen.copyShape(f);
            seenWithout = without;
            isShaped = true;
            isGathered = false;
            shape.build(f, without);
        }

        void gather() {
            if (isGathered) {
                return;
            }
            isGathered = true;
            size = 0;
            for (int i = 0; i < shape.rank; i++) {
                int to = shape.rank - 1 - i;
                System.arraycopy(shape.row[i], 0, span[to], 0, shape.ends);
                Whole.makeLeast(span[to], shape.ends);
                lead[to] = shape.pivot[i];
            }
            if (shape.rank > 0) {
                descend(0, 0, 0);
            }
        }

        /**
         * Chooses ENDS that do not turn, lowest first, until one row is left. An END that is passed
         * by must turn in that row: so each fall is met once, by the first ENDS that make it. Behind
         * the second row's pivot there are too few pivots, and so too few ENDS, to leave one row.
         */
        private void descend(int depth, int from, int must) {
            int rows = shape.rank - depth;
            if (depth >= ENDS || rows < 1) {
                return;
            }
            if (rows == 1) {
                keep(span[depth * ENDS], must);
                return;
            }
            int passed = must;
            int last = lead[depth * ENDS + 1];
            for (int e = from; e < shape.ends && e <= last; e++) {
                int by = firstRowThatTurns(depth, rows, e);
                if (by == NONE) {
                    continue;
                }
                holdStill(depth, rows, by, e);
                descend(depth + 1, e + 1, passed);
                passed |= 1 << e;
            }
        }

        private int firstRowThatTurns(int depth, int rows, int e) {
            for (int i = 0; i < rows; i++) {
                if (span[depth * ENDS + i][e] != 0) {
                    return i;
                }
            }
            return NONE;
        }

        /** The next depth's rows: all but one, with so much of that one that END e does not turn. */
        private void holdStill(int depth, int rows, int by, int e) {
            int to = (depth + 1) * ENDS;
            if (to + rows > span.length) {
                return;
            }
            for (int i = 0; i < rows; i++) {
                if (i != by) {
                    System.arraycopy(span[depth * ENDS + i], 0, span[to], 0, shape.ends);
                    Whole.clearAt(span[to], span[depth * ENDS + by], e, shape.ends);
                    lead[to] = lead[depth * ENDS + i];
                    to++;
                }
            }
        }

        private void keep(long[] row, int must) {
            int bits = 0;
            for (int e = 0; e < shape.ends; e++) {
                if (row[e] != 0) {
                    bits |= 1 << e;
                }
            }
            if ((bits & must) == must && size < room) {
                System.arraycopy(row, 0, turns, size * ENDS, shape.ends);
                mask[size] = bits;
                size++;
            }
        }

        /** WORK of a fall by the loads that the shape took, times its scale. */
        long workOf(int fall) {
            long work = 0;
            for (int i = 0; i < shape.rank; i++) {
                work += shape.weight[i] * turns[fall * ENDS + shape.pivot[i]];
            }
            return work;
        }

        int countWorking() {
            int working = 0;
            for (int fall = 0; fall < size; fall++) {
                if (workOf(fall) != 0) {
                    working++;
                }
            }
            return working;
        }

        long turnOfEnd(int fall, int e) {
            for (int i = 0; i < shape.ends; i++) {
                if (shape.end[i] == e && fall >= 0 && fall < size) {
                    return turns[fall * ENDS + i];
                }
            }
            return 0;
        }
    }

    /** THE GREATEST with THE FALL by which it is so. */
    private static final class Limit {
        int stamp = NONE;
        final long[] plus = new long[ENDS];
        final long[] minus = new long[ENDS];
        /** The fraction; below 0: there is none. */
        long above;
        long below;
        /** THE FALL among the PLAIN ones, 1 as it is there, -1 turned round; NONE: no one is told. */
        int fall = NONE;
        int sign = 1;
        int alike;

        /** Strengths of ENDS, those of one BAR (NONE: of none) more by 1. */
        void takeStrengths(Shape shape, Frame f, int stronger) {
            for (int i = 0; i < shape.ends; i++) {
                int b = shape.end[i] / 2;
                int more = b == stronger ? 1 : 0;
                plus[i] = f.p[b] + more;
                minus[i] = f.q[b] + more;
            }
        }

        void seekCase(Falls falls, Frame f, int c) {
            seek(falls, falls.shape.takeCase(f, c));
        }

        void seekRoll(Falls falls, int j, int x, int y) {
            seek(falls, falls.shape.takeRoll(j, x, y));
        }

        /** Not steady: LOOSE MOVES have WORK, so the fraction is 0 and no fall is told. */
        private void seek(Falls falls, boolean isSteady) {
            fall = NONE;
            alike = 0;
            above = 0;
            below = isSteady ? 0 : 1;
            for (int i = 0; isSteady && i < falls.size; i++) {
                long work = falls.workOf(i);
                if (work != 0) {
                    weighFall(falls, i, work);
                }
            }
            if (fall != NONE) {
                setFraction(above, below, falls.shape.scale);
            }
        }

        /** While falls are sought, the fraction lacks the scale, which all of them share. */
        private void weighFall(Falls falls, int i, long work) {
            int way = work > 0 ? 1 : -1;
            long bears = bearsOfFall(falls, i, way);
            int less = fall == NONE ? -1 : Whole.compareFractions(bears, Math.abs(work), above, below);
            if (less > 0) {
                return;
            }
            alike = less < 0 ? 1 : alike + 1;
            if (less < 0 || isSooner(falls.mask[i], falls.mask[fall])) {
                fall = i;
                sign = way;
                above = bears;
                below = Math.abs(work);
            }
        }

        private static boolean isSooner(int mask, int than) {
            int more = Integer.bitCount(mask) - Integer.bitCount(than);
            return more < 0 || more == 0 && mask < than;
        }

        private long bearsOfFall(Falls falls, int fall, int way) {
            long[] forth = way > 0 ? plus : minus;
            long[] round = way > 0 ? minus : plus;
            long bears = 0;
            for (int e = 0; e < falls.shape.ends; e++) {
                long turn = falls.turns[fall * ENDS + e];
                bears += turn > 0 ? turn * forth[e] : -turn * round[e];
            }
            return bears;
        }

        long bearsOfTurns(long[] turns, int ends) {
            long bears = 0;
            for (int e = 0; e < ends; e++) {
                bears += turns[e] > 0 ? turns[e] * plus[e] : -turns[e] * minus[e];
            }
            return bears;
        }

        /** bears through work / scale, without a common divisor. */
        void setFraction(long bears, long work, long scale) {
            long g = Whole.commonDivisor(bears, work);
            if (g == 0) {
                return;
            }
            above = bears / g;
            below = work / g;
            g = Whole.commonDivisor(scale, below);
            if (g == 0) {
                return;
            }
            above *= scale / g;
            below /= g;
        }

        long tell(int what) {
            if (below == 0) {
                return NOTHING;
            }
            return what == 0 ? above : below;
        }
    }

    /** THE LEAST METAL. */
    private static final class Metal {
        int stamp = NONE;
        int cases;
        boolean found;
        long cost;
        final int[] chosen = new int[GROUPS];
        /** LENGTHS of all BARS of a GROUP; 0: it has none. */
        final long[] lengths = new long[GROUPS];
        final long[] turned = new long[GROUPS];
        /** The greatest WORK of each fall by one of the CASES, times the scale. */
        final long[] most = new long[FALLS_OF_ALL];
        /** For strengths of GROUPS 0 and 1 which one GROUP 2 needs at least, by places in the LIST. */
        final int[] need = new int[LISTED * LISTED];

        void solve(Falls falls, Frame f, int[] list, int size) {
            found = false;
            if (!takeCases(falls, f)) {
                return;
            }
            Arrays.fill(lengths, 0L);
            for (int b = 0; b < f.bars; b++) {
                lengths[f.group[b]] += f.lengthOf(b);
            }
            Arrays.fill(need, 0);
            for (int i = 0; i < falls.size; i++) {
                if (most[i] > 0) {
                    takeTurned(falls, f, i);
                    raiseNeeds(most[i], falls.shape.scale, list, size);
                }
            }
            choose(list, size);
        }

        private boolean takeCases(Falls falls, Frame f) {
            Arrays.fill(most, 0L);
            for (int c = 0; c < CASES; c++) {
                if ((cases >> c & 1) == 0) {
                    continue;
                }
                if (!falls.shape.takeCase(f, c)) {
                    return false;
                }
                for (int i = 0; i < falls.size && i < most.length; i++) {
                    most[i] = Math.max(most[i], Math.abs(falls.workOf(i)));
                }
            }
            return true;
        }

        /** By P and Q alike a GROUP bears its strength times all its TURNS without their signs. */
        private void takeTurned(Falls falls, Frame f, int fall) {
            Arrays.fill(turned, 0L);
            for (int e = 0; e < falls.shape.ends; e++) {
                turned[f.group[falls.shape.end[e] / 2]] += Math.abs(falls.turns[fall * ENDS + e]);
            }
        }

        private void raiseNeeds(long work, long scale, int[] list, int size) {
            for (int i = 0; i < choices(0, size); i++) {
                for (int j = 0; j < choices(1, size); j++) {
                    long lack = work - scale * (turned[0] * list[i] + turned[1] * list[j]);
                    int k = need[i * LISTED + j];
                    while (k < size && scale * turned[2] * list[k] < lack) {
                        k++;
                    }
                    need[i * LISTED + j] = k;
                }
            }
        }

        private int choices(int g, int size) {
            return lengths[g] > 0 ? size : 1;
        }

        private void choose(int[] list, int size) {
            for (int i = 0; i < choices(0, size); i++) {
                for (int j = 0; j < choices(1, size); j++) {
                    int k = need[i * LISTED + j];
                    if (k >= size) {
                        continue;
                    }
                    long sum = lengths[0] * list[i] + lengths[1] * list[j] + lengths[2] * list[k];
                    if (!found || sum < cost) {
                        found = true;
                        cost = sum;
                        chosen[0] = list[i];
                        chosen[1] = list[j];
                        chosen[2] = list[k];
                    }
                }
            }
        }
    }
}
