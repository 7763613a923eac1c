/**
 * For each promise of the document: ordinary calls, the edges that it names, and wrong ones.
 * The beam that most of them use is worked out by hand in beam().
 */
public final class PromisesOneByOne {
    private static final int MIN = Integer.MIN_VALUE;
    private static final int MAX = Integer.MAX_VALUE;
    private static final long NO_TURN = -1000000000000L;
    private static int wrong = 0;
    private static int checks = 0;

    public static void main(String[] args) {
        newObject();
        joint();
        bar();
        pin();
        strength();
        load();
        group();
        feed();
        sheet();
        free();
        falls();
        greatest();
        fall();
        only();
        worth();
        bends();
        turning();
        bound();
        rolls();
        out();
        list();
        metal();
        undo();
        redo();
        notTheOldShape();
        look();
        place();
        count();
        leans();
        System.out.println(checks + " checks, " + wrong + " wrong");
        if (wrong != 0) {
            System.exit(1);
        }
    }

    private static void due(int promise, String what, long got, long want) {
        checks++;
        if (got != want) {
            wrong++;
            System.out.println("promise " + promise + ": " + what + " answered " + got + ", due is " + want);
        }
    }

    private static void due(int promise, String what, boolean got, boolean want) {
        due(promise, what, got ? 1 : 0, want ? 1 : 0);
    }

    private static void fraction(int promise, String what, long above, long below, long n, long d) {
        due(promise, what + " above", above, n);
        due(promise, what + " below", below, d);
    }

    /**
     * A beam, held at both ends: LENGTHS 2 and 4, a LOAD of 3 downwards at the middle JOINT in CASE 0.
     * By v and t of that JOINT the ENDS turn by -v / 2, t - v / 2, t + v / 4, v / 4: three PLAIN FALLS
     * and those turned round: (0, 1, 1, 0), (2, 0, -3, -1) and (2, 3, 0, -1), the last two with v = -4:
     * WORK 12, BEARS 20 + 90 + 30 = 140 and 20 + 30 + 30 = 80.
     */
    private static HingeFrames beam() {
        HingeFrames x = new HingeFrames();
        x.joint(0, 0, 7);
        x.joint(2, 0, 0);
        x.joint(6, 0, 7);
        x.bar(0, 1, 10, 20);
        x.bar(1, 2, 6, 30);
        x.load(0, 1, 0, -3);
        return x;
    }

    private static void newObject() {
        HingeFrames x = new HingeFrames();
        for (int what = 0; what <= 5; what++) {
            due(1, "count(" + what + ")", x.count(what), 0);
        }
        due(1, "place(0, 0)", x.place(0, 0), -1000);
        due(1, "look(0, 0)", x.look(0, 0), -1);
        due(1, "bound(0)", x.bound(0), -1);
        due(1, "metal without a LIST", x.metal(1, -1), -1);
        due(1, "greatest(5, 0)", x.greatest(5, 0), -2);
        due(1, "bends of no ENDS", x.bends(0, 5, 3), 0);
        due(1, "turning of no ENDS", x.turning(0), 2);
        due(1, "NONE", HingeFrames.NONE, -1);
        HingeFrames other = new HingeFrames();
        x.joint(1, 1, 1);
        x.feed(1, 2, 3, 4, 5);
        due(1, "another object's JOINTS", other.count(0), 0);
        due(1, "another object's tape", other.count(2), 0);
    }

    private static void joint() {
        HingeFrames x = new HingeFrames();
        int[][] bad = {{-1, 0, 0}, {7, 0, 0}, {0, -1, 0}, {0, 7, 0}, {0, 0, -1}, {0, 0, 8}, {MIN, MAX, 0}, {0, 0, MAX}, {0, MIN, 0}};
        for (int[] b : bad) {
            due(2, "a JOINT that can't be", x.joint(b[0], b[1], b[2]), -1);
        }
        due(2, "count(3)", x.count(3), 0);
        due(2, "at an edge", x.joint(6, 6, 7), 0);
        due(2, "at an edge", x.joint(0, 0, 0), 1);
        due(2, "one is there", x.joint(6, 6, 0), -1);
        due(2, "same column", x.joint(6, 5, 0), 2);
        due(2, "same row", x.joint(5, 6, 0), 3);
        due(2, "fifth", x.joint(1, 1, 3), 4);
        due(2, "sixth", x.joint(2, 1, 3), 5);
        due(2, "seventh", x.joint(3, 1, 3), 6);
        due(2, "eighth", x.joint(4, 1, 3), -1);
        due(2, "count(0)", x.count(0), 7);
        due(2, "undo()", x.undo(), 6);
        due(2, "seventh again", x.joint(4, 1, 3), 6);
        due(2, "place(6, 0)", x.place(6, 0), 4);
    }

    private static void bar() {
        HingeFrames x = new HingeFrames();
        x.joint(0, 0, 0);
        x.joint(6, 0, 0);
        x.joint(6, 6, 0);
        int[][] bad = {{0, 0, 1, 1}, {0, 2, 1, 1}, {0, 3, 1, 1}, {3, 0, 1, 1}, {-1, 0, 1, 1}, {0, -1, 1, 1}, {0, 1, -1, 0},
            {0, 1, 0, -1}, {0, 1, 1001, 0}, {0, 1, 0, 1001}, {MIN, MAX, 0, 0}, {0, MAX, 0, 0}, {0, 1, MIN, MAX}};
        for (int[] b : bad) {
            due(3, "a BAR that can't be", x.bar(b[0], b[1], b[2], b[3]), -1);
        }
        due(3, "count(3)", x.count(3), 3);
        due(3, "along", x.bar(0, 1, 0, 1000), 0);
        due(3, "again between the same", x.bar(1, 0, 1000, 0), 1);
        due(3, "up", x.bar(1, 2, 5, 6), 2);
        for (int b = 3; b < 7; b++) {
            due(3, "one more", x.bar(2, 1, b, b), b);
        }
        due(3, "an eighth", x.bar(2, 1, 1, 1), -1);
        due(3, "look(2, 0)", x.look(2, 0), 1);
        due(3, "look(6, 2)", x.look(6, 2), 6);
        due(3, "count(1)", x.count(1), 7);
    }

    private static void pin() {
        HingeFrames x = beam();
        due(4, "no such END", x.pin(4, true), false);
        due(4, "no such END", x.pin(-1, true), false);
        due(4, "no such END", x.pin(MIN, false), false);
        due(4, "no such END", x.pin(MAX, true), false);
        due(4, "it is so", x.pin(1, false), false);
        due(4, "pin(1, true)", x.pin(1, true), true);
        due(4, "it is so", x.pin(1, true), false);
        due(4, "look(0, 7)", x.look(0, 7), 1);
        due(4, "look(0, 6)", x.look(0, 6), 0);
        // ENDS 0, 2, 3 turn by -v / 2, t + v / 4, v / 4: (2, 0, -1) has WORK 12 and BEARS 20 + 30
        fraction(4, "greatest", x.greatest(0, 0), x.greatest(0, 1), 25, 6);
        due(4, "pin(1, false)", x.pin(1, false), true);
        fraction(4, "greatest", x.greatest(0, 0), x.greatest(0, 1), 20, 3);
        due(4, "count(3)", x.count(3), 8);
    }

    private static void strength() {
        HingeFrames x = beam();
        due(5, "no such BAR", x.strength(2, 1, 1), false);
        due(5, "no such BAR", x.strength(-1, 1, 1), false);
        due(5, "no such P", x.strength(0, -1, 1), false);
        due(5, "no such P", x.strength(0, 1001, 1), false);
        due(5, "no such Q", x.strength(0, 1, -1), false);
        due(5, "no such Q", x.strength(0, 1, MAX), false);
        due(5, "count(3)", x.count(3), 6);
        due(5, "strength(0, 0, 1000)", x.strength(0, 0, 1000), true);
        due(5, "P", x.look(0, 2), 0);
        due(5, "Q", x.look(0, 3), 1000);
        fraction(5, "greatest", x.greatest(0, 0), x.greatest(0, 1), 5, 2);
        due(5, "the same again", x.strength(0, 0, 1000), true);
        due(5, "count(3)", x.count(3), 8);
        due(5, "all of it", x.strength(1, 0, 0), true);
        fraction(5, "greatest", x.greatest(0, 0), x.greatest(0, 1), 0, 1);
        due(5, "a FALL is told", x.fall(0, 3), -1);
    }

    private static void load() {
        HingeFrames x = beam();
        due(6, "no such CASE", x.load(6, 0, 0, 0), false);
        due(6, "no such CASE", x.load(-1, 0, 0, 0), false);
        due(6, "no such JOINT", x.load(0, 3, 0, 0), false);
        due(6, "no such JOINT", x.load(0, -1, 0, 0), false);
        due(6, "no such LOAD", x.load(0, 0, 101, 0), false);
        due(6, "no such LOAD", x.load(0, 0, 0, -101), false);
        due(6, "no such LOAD", x.load(0, 0, MIN, MAX), false);
        due(6, "count(3)", x.count(3), 6);
        due(6, "load(5, 1, 100, -100)", x.load(5, 1, 100, -100), true);
        due(6, "place(1, 20)", x.place(1, 20), 100);
        due(6, "place(1, 21)", x.place(1, 21), -100);
        due(6, "place(1, 10)", x.place(1, 10), 0);
        fraction(6, "greatest", x.greatest(5, 0), x.greatest(5, 1), 1, 5);
        due(6, "upwards", x.load(5, 1, 0, 1), true);
        // (-2, 0, 3, 1) BEARS 40 + 18 + 6 with WORK 4
        fraction(6, "greatest", x.greatest(5, 0), x.greatest(5, 1), 16, 1);
    }

    private static void group() {
        HingeFrames x = beam();
        due(7, "no such BAR", x.group(2, 0), false);
        due(7, "no such BAR", x.group(-1, 0), false);
        due(7, "no such GROUP", x.group(0, 3), false);
        due(7, "no such GROUP", x.group(0, -1), false);
        due(7, "no such GROUP", x.group(MAX, MIN), false);
        due(7, "at first", x.look(1, 4), 0);
        due(7, "group(1, 2)", x.group(1, 2), true);
        due(7, "look(1, 4)", x.look(1, 4), 2);
        due(7, "look(0, 4)", x.look(0, 4), 0);
        due(7, "the same again", x.group(1, 2), true);
        due(7, "count(3)", x.count(3), 8);
    }

    private static void feed() {
        HingeFrames x = beam();
        for (int i = 1; i <= 10; i++) {
            due(8, "feed", x.feed(0x01020304, 0, 0, 0, i), 20 * i);
        }
        due(8, "more than 200", x.feed(1, 1, 1, 1, 1), -1);
        due(8, "count(2)", x.count(2), 200);
        x.bends(0, 0, 1);
        x.feed(0x00010203, 0x01020405, 0, 0, 0);
        due(8, "the highest byte first", x.sheet(2), 4);
        due(8, "P", x.look(2, 2), 2);
        due(8, "Q", x.look(2, 3), 3);
        due(8, "P", x.look(3, 2), 4);
        due(8, "bytes above 127", x.feed(0x0001ff80, 0, 0, 0, 0), 20);
        x.sheet(1);
        due(8, "P", x.look(4, 2), 255);
        due(8, "Q", x.look(4, 3), 128);
        due(8, "count(3): no act", x.count(3), 8);
    }

    private static void sheet() {
        HingeFrames x = beam();
        x.joint(2, 5, 0);
        due(9, "no tape", x.sheet(1), -1);
        x.feed(0x00010101, 0x01030202, 0x02010303, 0x03010404, 0x00020505);
        due(9, "n", x.sheet(0), -1);
        due(9, "n", x.sheet(8), -1);
        due(9, "n", x.sheet(MIN), -1);
        due(9, "n", x.sheet(MAX), -1);
        due(9, "more than 7 then", x.sheet(6), -1);
        due(9, "the tape stays", x.count(2), 20);
        due(9, "sheet(5)", x.sheet(5), 7);
        due(9, "empty then", x.count(2), 0);
        due(9, "one act", x.count(3), 8);
        due(9, "behind the others", x.look(2, 2), 1);
        due(9, "the second one's LENGTH", x.look(3, 5), 5);
        due(9, "the last one's second JOINT", x.look(6, 1), 2);
        due(9, "its GROUP", x.look(6, 4), 0);
        due(9, "undo()", x.undo(), 7);
        due(9, "all of it", x.count(1), 2);
        x.feed(0x00010101, 0, 0, 0, 0);
        due(9, "not so many", x.sheet(5 + 1), -1);
        due(9, "the same JOINT twice", x.sheet(2), -15);
        due(9, "empty then", x.count(2), 0);
        due(9, "none is taken", x.count(1), 2);
        due(9, "no act", x.count(4), 1);
        x.feed(0x00010101, 0x04040000, 0, 0, 0);
        due(9, "no such first JOINT", x.sheet(2), -14);
        x.feed(0xff010101, 0, 0, 0, 0);
        due(9, "a byte of 255", x.sheet(1), -10);
        x.feed(0x00040101, 0, 0, 0, 0);
        due(9, "no such second JOINT", x.sheet(1), -11);
        x.feed(0x00010101, 0x00010101, 0x00030000, 0xffffffff, 0);
        due(9, "not in a row or column", x.sheet(4), -19);
        x.feed(0x00010101, 0x00010101, 0x00020000, 0, 0xff000000);
        due(9, "the bytes behind do not count", x.sheet(3), 5);
        due(9, "redo is over", x.redo(), -1);
        x.feed(0x00010101, 0, 0, 0, 0);
        due(9, "more than 7 then", x.sheet(3), -1);
        due(9, "the tape stays", x.count(2), 20);
        HingeFrames y = new HingeFrames();
        y.joint(0, 0, 0);
        y.joint(1, 0, 0);
        y.feed(0x00010101, 0x00010101, 0x00010101, 0x00010101, 0x00010101);
        due(9, "20 bytes for 6 BARS", y.sheet(6), -1);
        due(9, "20 bytes for 5 BARS", y.sheet(5), 5);
    }

    private static void free() {
        HingeFrames x = beam();
        due(10, "FREE", x.free(0), 2);
        due(10, "LOOSE", x.free(1), 0);
        due(10, "TURNS", x.free(2), 2);
        due(10, "others", x.free(3), -1);
        due(10, "others", x.free(-1), -1);
        due(10, "others", x.free(MIN), -1);
        x.joint(2, 2, 0);
        due(10, "a JOINT without a BAR is LOOSE", x.free(1), 3);
        x.bar(1, 3, 1, 1);
        // its u and t are told by TURNS, its v is that of JOINT 1
        due(10, "LOOSE", x.free(1), 0);
        due(10, "TURNS", x.free(2), 4);
        due(10, "FREE", x.free(0), 2);
        x.pin(4, true);
        x.pin(5, true);
        due(10, "LOOSE by pins", x.free(1), 2);
        due(10, "TURNS", x.free(2), 2);
        due(10, "FREE", x.free(0), 2);
        HingeFrames y = new HingeFrames();
        for (int j = 0; j < 7; j++) {
            y.joint(j, j, 0);
        }
        due(10, "seven free JOINTS", y.free(1), 21);
        due(10, "no TURNS", y.free(2), 0);
        for (int c = 0; c < 6; c++) {
            y.load(c, 6, c == 0 ? 0 : 1, 0);
        }
        due(10, "no LOAD at seven free JOINTS", y.greatest(0, 0), -2);
        due(10, "a LOAD at the last one", y.greatest(5, 0), 0);
    }

    private static void falls() {
        HingeFrames x = beam();
        due(11, "all", x.falls(-1), 6);
        due(11, "of CASE 0", x.falls(0), 2);
        due(11, "of a CASE without LOADS", x.falls(5), 0);
        due(11, "no such CASE", x.falls(6), -1);
        due(11, "no such CASE", x.falls(-2), -1);
        due(11, "no such CASE", x.falls(MIN), -1);
        x.pin(1, true);
        // (0, 1, 0), (-2, 0, 1): two and those turned round
        due(11, "all", x.falls(-1), 4);
        due(11, "of CASE 0", x.falls(0), 1);
        x.joint(6, 6, 0);
        x.load(1, 3, 1, 0);
        due(11, "LOOSE MOVES have WORK", x.falls(1), -1);
        due(11, "LOOSE MOVES have none", x.falls(0), 1);
        due(11, "all", x.falls(-1), 4);
        HingeFrames y = new HingeFrames();
        y.joint(0, 0, 7);
        y.joint(2, 0, 3);
        y.bar(0, 1, 1, 1);
        due(11, "a single one and it turned round", y.falls(-1), 2);
    }

    private static void greatest() {
        HingeFrames x = beam();
        fraction(12, "greatest", x.greatest(0, 0), x.greatest(0, 1), 20, 3);
        due(12, "no such CASE", x.greatest(6, 0), -1);
        due(12, "no such CASE", x.greatest(-1, 0), -1);
        due(12, "no such what", x.greatest(0, 2), -1);
        due(12, "no such what", x.greatest(0, -1), -1);
        due(12, "no such what, none", x.greatest(1, MAX), -1);
        due(12, "none", x.greatest(1, 0), -2);
        due(12, "none", x.greatest(1, 1), -2);
        x.load(1, 1, 100, 0);
        due(12, "a LOAD that does no WORK", x.greatest(1, 0), -2);
        x.load(1, 0, 3, 7);
        due(12, "a LOAD where it is HELD", x.greatest(1, 1), -2);
        x.joint(2, 6, 0);
        x.load(2, 3, 0, 1);
        fraction(12, "by LOOSE MOVES", x.greatest(2, 0), x.greatest(2, 1), 0, 1);
        fraction(12, "greatest", x.greatest(0, 0), x.greatest(0, 1), 20, 3);
    }

    private static void fall() {
        HingeFrames x = beam();
        long[] turns = {2, 3, 0, -1};
        for (int e = 0; e < 4; e++) {
            due(13, "END " + e, x.fall(0, e), turns[e]);
        }
        due(13, "no such END", x.fall(0, 4), NO_TURN);
        due(13, "no such END", x.fall(0, -1), NO_TURN);
        due(13, "no such CASE", x.fall(6, 0), NO_TURN);
        due(13, "no such CASE", x.fall(MIN, MAX), NO_TURN);
        due(13, "there is none", x.fall(1, 0), NO_TURN);
        x.pin(1, true);
        long[] pinned = {2, 0, 0, -1};
        for (int e = 0; e < 4; e++) {
            due(13, "END " + e + " behind a pin", x.fall(0, e), pinned[e]);
        }
        x.pin(1, false);
        // (2, 0, -3, -1) BEARS 3 * 10 less than 3 * 30 if Q of BAR 1 is 10: 30 and (2, 3, 0, -1) BEARS 30, too: like ones
        x.strength(1, 6, 10);
        due(13, "of like ones the least set", x.fall(0, 2), 0);
        x.strength(1, 6, 9);
        due(13, "of lesser BEARS", x.fall(0, 2), -3);
        x.joint(5, 5, 0);
        x.load(1, 3, 0, 1);
        due(13, "0 by LOOSE MOVES", x.fall(1, 0), NO_TURN);
        fewestEnds();
    }

    /**
     * A cantilever of LENGTHS 1 and 1 with no strength in it: all falls are like ones.
     * By v1, t1, v2, t2: -v1, t1 - v1, t1 - v2 + v1, t2 - v2 + v1.
     */
    private static void fewestEnds() {
        manyAlike();
        HingeFrames x = new HingeFrames();
        x.joint(0, 0, 7);
        x.joint(1, 0, 0);
        x.joint(2, 0, 0);
        x.bar(0, 1, 0, 0);
        x.bar(1, 2, 0, 0);
        x.load(0, 2, 0, 1);
        // each END can turn alone; v2 goes by 2 with END 0, by 1 with END 1 and with END 2
        due(13, "fewest ENDS, least set", x.fall(0, 0), -1);
        due(13, "fewest ENDS, least set", x.fall(0, 1), 0);
        due(13, "not ONLY", x.only(0), 0);
        x.strength(0, 1, 1);
        // now END 2 alone (with END 3 at rest) has BEARS 0
        due(13, "the one of no strength", x.fall(0, 2), -1);
        due(13, "the one of no strength", x.fall(0, 0), 0);
        due(13, "ONLY", x.only(0), 1);
    }

    /**
     * The cantilever's falls where several have one fraction: P and Q of BAR 0 twice those of BAR 1,
     * so that END 0 alone (v2 by 2, BEARS 2) is like ENDS 1 and 2 (v2 by 1, BEARS 2 and 1: not so).
     */
    private static void manyAlike() {
        HingeFrames x = new HingeFrames();
        x.joint(0, 0, 7);
        x.joint(1, 0, 0);
        x.joint(2, 0, 0);
        x.bar(0, 1, 2, 2);
        x.bar(1, 2, 1, 1);
        x.load(0, 2, 0, 1);
        fraction(12, "of END 0 and of END 2", x.greatest(0, 0), x.greatest(0, 1), 1, 1);
        due(13, "the least set", x.fall(0, 0), -1);
        due(13, "the least set", x.fall(0, 2), 0);
        due(14, "two like ones", x.only(0), 0);
        // two frames in one: JOINT 1 does not turn, so ENDS 0 and 1 turn alike; END 2 can turn alone
        HingeFrames y = new HingeFrames();
        y.joint(0, 0, 7);
        y.joint(1, 0, 4);
        y.joint(3, 0, 7);
        y.joint(4, 0, 0);
        y.bar(0, 1, 0, 0);
        y.bar(2, 3, 0, 0);
        y.load(0, 1, 0, 1);
        due(13, "both ENDS", y.fall(0, 0), -1);
        due(13, "both ENDS", y.fall(0, 1), -1);
        y.load(0, 3, 0, 1);
        due(13, "fewer ENDS, of a greater set", y.fall(0, 2), -1);
        due(13, "fewer ENDS, of a greater set", y.fall(0, 1), 0);
        due(14, "several like ones", y.only(0), 0);
    }

    private static void only() {
        HingeFrames x = beam();
        due(14, "ONLY", x.only(0), 1);
        due(14, "no such CASE", x.only(6), -1);
        due(14, "no such CASE", x.only(-1), -1);
        due(14, "there is none", x.only(1), -1);
        x.strength(1, 6, 10);
        due(14, "two like ones", x.only(0), 0);
        x.joint(5, 5, 0);
        x.load(1, 3, 0, 1);
        due(14, "0 by LOOSE MOVES", x.only(1), -1);
    }

    private static void worth() {
        HingeFrames x = beam();
        fraction(15, "BAR 0", x.worth(0, 0, 0), x.worth(0, 0, 1), 85, 12);
        fraction(15, "BAR 1", x.worth(0, 1, 0), x.worth(0, 1, 1), 27, 4);
        due(15, "no such BAR", x.worth(0, 2, 0), -1);
        due(15, "no such BAR", x.worth(0, -1, 0), -1);
        due(15, "no such CASE", x.worth(6, 0, 0), -1);
        due(15, "no such CASE", x.worth(MIN, 0, 0), -1);
        due(15, "no such what", x.worth(0, 0, 2), -1);
        due(15, "no such what", x.worth(1, 0, -1), -1);
        due(15, "none", x.worth(1, 0, 0), -2);
        due(15, "none", x.worth(1, 0, 1), -2);
        x.strength(0, 1000, 1000);
        x.strength(1, 1000, 1000);
        // (2, 0, -3, -1) BEARS 2002 + 4000, (2, 3, 0, -1) 5005 + 1000: 6002 through 12
        fraction(15, "beyond 1000", x.worth(0, 0, 0), x.worth(0, 0, 1), 3001, 6);
        due(15, "it stays", x.look(0, 2), 1000);
        x.joint(5, 5, 0);
        x.load(2, 3, 0, 1);
        fraction(15, "0 by LOOSE MOVES", x.worth(2, 1, 0), x.worth(2, 1, 1), 0, 1);
    }

    private static void bends() {
        HingeFrames x = beam();
        // by t: bends 1 and 2 together 0; by v: -m0 / 2 - m1 / 2 + m2 / 4 + m3 / 4 = -3 n / d
        x.feed(10, 10, -10, -30, 0);
        due(16, "20 / 3", x.bends(0, 20, 3), 0);
        due(16, "empty then", x.count(2), 0);
        due(16, "not so many", x.bends(0, 20, 3), -1);
        x.feed(10, 10, -10, -30, 7);
        due(16, "no such CASE", x.bends(6, 20, 3), -1);
        due(16, "no such CASE", x.bends(-1, 20, 3), -1);
        due(16, "no such n", x.bends(0, 1000001, 3), -1);
        due(16, "no such n", x.bends(0, -1000001, 3), -1);
        due(16, "no such n", x.bends(0, MIN, 3), -1);
        due(16, "no such d", x.bends(0, 20, 0), -1);
        due(16, "no such d", x.bends(0, 20, 1001), -1);
        due(16, "the tape stays", x.count(2), 20);
        due(16, "another factor", x.bends(0, 20, 4), 1);
        x.feed(10, 10, -10, -30, 0);
        due(16, "a factor that is not least", x.bends(0, 6660, 999), 0);
        x.feed(11, 9, -9, -31, 0);
        due(16, "above P", x.bends(0, 20, 3), 2);
        x.feed(-21, -20, 20, -1, 0);
        due(16, "below Q", x.bends(1, 0, 1), 1);
        x.feed(-21, 0, 0, -42, 0);
        due(16, "no LOADS, below Q", x.bends(1, 0, 1), 2);
        x.feed(-20, 5, -5, -25, 0);
        due(16, "no LOADS, within", x.bends(1, 1000000, 1000), 0);
        x.feed(0, 0, 0, 0, 0);
        due(16, "0 times", x.bends(0, 0, 1000), 0);
        x.feed(MIN, MAX, -MAX, MIN, 0);
        due(16, "great ones", x.bends(0, -1000000, 1), 1);
        x.pin(3, true);
        x.feed(10, 10, -10, -30, 0);
        due(16, "not 0 at a pin", x.bends(0, 20, 3), 1);
        x.feed(10, 10, -10, 0, 0);
        due(16, "25 / 6", x.bends(0, 25, 6), 0);
        x.joint(2, 2, 0);
        x.load(0, 3, 1, 0);
        x.feed(10, 10, -10, 0, 0);
        due(16, "LOOSE MOVES too", x.bends(0, 25, 6), 1);
        x.feed(1, 0, 0, 0, 0);
        x.bar(0, 1, 1, 1);
        due(16, "20 bytes for 6 ENDS", x.bends(0, 0, 1), -1);
    }

    private static void turning() {
        HingeFrames x = beam();
        due(17, "not so many", x.turning(0), -1);
        x.feed(2, 3, 0, -1, 99);
        due(17, "no such CASE", x.turning(6), -1);
        due(17, "no such CASE", x.turning(MIN), -1);
        due(17, "the tape stays", x.count(2), 20);
        due(17, "THE FALL", x.turning(0), 0);
        due(17, "empty then", x.count(2), 0);
        fraction(17, "BOUND", x.bound(0), x.bound(1), 20, 3);
        x.feed(4, 3, -3, -2, 0);
        due(17, "the sum of both: 220 through 24", x.turning(0), 0);
        fraction(17, "BOUND", x.bound(0), x.bound(1), 55, 6);
        x.feed(-2, -3, 0, 1, 0);
        due(17, "turned round", x.turning(0), 2);
        x.feed(0, 1, 1, 0, 0);
        due(17, "no WORK", x.turning(0), 2);
        x.feed(0, 0, 0, 0, 0);
        due(17, "no TURNS", x.turning(0), 2);
        x.feed(2, 3, 0, 1, 0);
        due(17, "can't be", x.turning(0), 1);
        x.feed(2, 3, 1, -1, 0);
        due(17, "can't be", x.turning(0), 1);
        x.feed(6666, 9999, 0, -3333, 0);
        due(17, "great ones", x.turning(0), 0);
        x.feed(6668, 10002, 0, -3334, 0);
        due(17, "too great ones", x.turning(0), 1);
        edgesOfTurns();
        x.feed(2, 3, 0, -1, 0);
        due(17, "no LOADS", x.turning(1), 2);
        x.pin(1, true);
        x.feed(2, 3, 0, -1, 0);
        due(17, "not 0 at a pin", x.turning(0), 1);
        x.feed(2, 0, 0, -1, 0);
        due(17, "0 at a pin", x.turning(0), 0);
        fraction(17, "BOUND", x.bound(0), x.bound(1), 25, 6);
        x.joint(5, 5, 0);
        x.load(0, 3, 0, 1);
        x.feed(2, 0, 0, -1, 0);
        due(17, "LOOSE MOVES have WORK", x.turning(0), 2);
        x.feed(2, 0, 0, 1, 0);
        due(17, "and they can't be", x.turning(0), 1);
    }

    /** A cantilever of LENGTH 1: both ENDS turn as they like, v is END 0's turned round. */
    private static void edgesOfTurns() {
        HingeFrames x = new HingeFrames();
        x.joint(0, 0, 7);
        x.joint(1, 0, 0);
        x.bar(0, 1, 3, 4);
        x.load(0, 1, 0, -1);
        int[][] told = {{1, 0, 0}, {10000, -10000, 0}, {10000, 10000, 0}, {10001, 0, 1}, {0, 10001, 1}, {5, -10001, 1}, {MIN, 0, 1},
            {0, MAX, 1}, {-10000, 10000, 2}, {-10001, 0, 1}};
        for (int[] t : told) {
            x.feed(t[0], t[1], 0, 0, 0);
            due(17, "turns " + t[0] + ", " + t[1], x.turning(0), t[2]);
        }
        x.feed(1, 0, 0, 0, 0);
        x.turning(0);
        fraction(18, "BOUND", x.bound(0), x.bound(1), 3, 1);
    }

    private static void bound() {
        HingeFrames x = beam();
        due(18, "there is none", x.bound(0), -1);
        due(18, "there is none", x.bound(1), -1);
        x.feed(2, 0, -3, -1, 0);
        x.turning(0);
        // 140 / 12
        fraction(18, "BOUND", x.bound(0), x.bound(1), 35, 3);
        due(18, "no such what", x.bound(2), -1);
        due(18, "no such what", x.bound(-1), -1);
        x.feed(2, 0, 3, -1, 0);
        x.turning(0);
        fraction(18, "it stays behind 1", x.bound(0), x.bound(1), 35, 3);
        x.strength(0, 1, 1);
        x.undo();
        x.undo();
        fraction(18, "it stays behind acts", x.bound(0), x.bound(1), 35, 3);
    }

    private static void rolls() {
        HingeFrames x = beam();
        due(19, "the middle one", x.rolls(0, -3, 7), 1);
        due(19, "held ones", x.rolls(0, -3, 5), -2);
        due(19, "no such set", x.rolls(0, -3, 0), -1);
        due(19, "no such set", x.rolls(0, -3, 8), -1);
        due(19, "no such set", x.rolls(0, -3, -1), -1);
        due(19, "no such set", x.rolls(0, -3, MIN), -1);
        due(19, "no such x", x.rolls(101, 0, 1), -1);
        due(19, "no such y", x.rolls(0, -101, 1), -1);
        due(19, "no LOAD", x.rolls(0, 0, 7), -2);
        due(19, "a LOAD that does no WORK", x.rolls(100, 0, 7), -2);
        x.joint(5, 5, 0);
        due(19, "a LOOSE one", x.rolls(0, -3, 15), 3);
        due(19, "place(1, 11) stays", x.place(1, 11), -3);
        HingeFrames z = new HingeFrames();
        z.joint(6, 0, 0);
        z.joint(4, 0, 0);
        z.joint(2, 0, 0);
        z.joint(0, 0, 7);
        z.bar(3, 2, 5, 5);
        z.bar(2, 1, 5, 5);
        z.bar(1, 0, 5, 5);
        due(19, "the tip of a cantilever", z.rolls(0, 1, 15), 0);
        due(19, "the farther of two", z.rolls(0, 1, 6), 1);
        z.strength(0, 0, 0);
        due(19, "of like ones the lowest", z.rolls(0, 1, 14), 1);
    }

    private static void out() {
        HingeFrames x = beam();
        fraction(20, "without BAR 0", x.out(0, 0, 0), x.out(0, 0, 1), 5, 2);
        fraction(20, "without BAR 1", x.out(0, 1, 0), x.out(0, 1, 1), 5, 3);
        due(20, "no such BAR", x.out(0, 2, 0), -1);
        due(20, "no such BAR", x.out(0, -1, 0), -1);
        due(20, "no such CASE", x.out(6, 0, 0), -1);
        due(20, "no such what", x.out(0, 0, 2), -1);
        due(20, "no such what", x.out(0, 0, MIN), -1);
        due(20, "none", x.out(1, 0, 0), -2);
        due(20, "none", x.out(1, 1, 1), -2);
        fraction(20, "with both", x.greatest(0, 0), x.greatest(0, 1), 20, 3);
        x.strength(1, 6, 12);
        fraction(20, "with another strength", x.out(0, 0, 0), x.out(0, 0, 1), 1, 1);
        x.load(0, 1, 1, -3);
        fraction(20, "still held along", x.out(0, 1, 0), x.out(0, 1, 1), 5, 3);
        HingeFrames z = new HingeFrames();
        z.joint(0, 0, 7);
        z.joint(3, 0, 0);
        z.bar(0, 1, 5, 5);
        z.load(0, 1, 1, 0);
        due(20, "held along by the BAR", z.greatest(0, 0), -2);
        fraction(20, "not any more", z.out(0, 0, 0), z.out(0, 0, 1), 0, 1);
    }

    private static void list() {
        HingeFrames x = beam();
        due(21, "no tape", x.list(1), false);
        x.feed(0, 1, 2, 999, 1000);
        due(21, "no such n", x.list(0), false);
        due(21, "no such n", x.list(7), false);
        due(21, "no such n", x.list(-1), false);
        due(21, "no such n", x.list(MAX), false);
        due(21, "not so many", x.list(6), false);
        due(21, "the tape stays", x.count(2), 20);
        due(21, "list(5)", x.list(5), true);
        due(21, "empty then", x.count(2), 0);
        due(21, "count(5)", x.count(5), 5);
        x.feed(1, 1001, 0, 0, 0);
        due(21, "too great", x.list(2), false);
        due(21, "empty then", x.count(2), 0);
        x.feed(-1, 1, 0, 0, 0);
        due(21, "too small", x.list(2), false);
        x.feed(2, 1, 0, 0, 0);
        due(21, "not growing", x.list(2), false);
        x.feed(2, 2, 0, 0, 0);
        due(21, "not growing", x.list(2), false);
        due(21, "the LIST stays", x.count(5), 5);
        due(21, "the LIST stays", x.metal(2, 2), 0);
        x.feed(7, 3, 0, 0, 0);
        due(21, "one", x.list(1), true);
        due(21, "count(5)", x.count(5), 1);
        due(21, "no act", x.count(3), 6);
        due(21, "metal", x.metal(2, -1), 42);
        x.undo();
        due(21, "UNDO leaves it", x.count(5), 1);
    }

    private static void metal() {
        HingeFrames x = beam();
        due(22, "no LIST", x.metal(1, -1), -1);
        x.feed(1, 2, 3, 4, 5);
        x.list(5);
        due(22, "no such set", x.metal(0, -1), -1);
        due(22, "no such set", x.metal(64, -1), -1);
        due(22, "no such set", x.metal(MIN, -1), -1);
        due(22, "no such what", x.metal(1, 3), -1);
        due(22, "no such what", x.metal(1, -2), -1);
        // one GROUP: (2, 0, -3, -1) and (2, 3, 0, -1) bear 6 s against 12
        due(22, "cost", x.metal(1, -1), 12);
        due(22, "GROUP 0", x.metal(1, 0), 2);
        due(22, "GROUP 1 has no BARS", x.metal(1, 1), 1);
        due(22, "GROUP 2 has no BARS", x.metal(1, 2), 1);
        due(22, "no LOADS", x.metal(62, -1), 6);
        x.group(1, 2);
        // 2 s + 4 r and 5 s + r, both 12 or more: (2, 2) costs 12, (4, 1) 12, too, (3, 1) does not do
        due(22, "cost", x.metal(1, -1), 12);
        due(22, "the least row", x.metal(1, 0), 2);
        due(22, "the least row", x.metal(1, 2), 2);
        x.load(1, 1, 0, -4);
        // both 16 or more: (2, 3) does not do, (3, 3) costs 18, (4, 2) 16, (5, 2) 18
        due(22, "cost of two CASES", x.metal(3, -1), 16);
        due(22, "GROUP 0", x.metal(3, 0), 4);
        due(22, "GROUP 2", x.metal(3, 2), 2);
        due(22, "CASE 0 alone", x.metal(1, -1), 12);
        x.load(1, 1, 0, -8);
        due(22, "too heavy", x.metal(2, -1), -2);
        due(22, "too heavy", x.metal(2, 1), -2);
        due(22, "others", x.metal(1, 0), 2);
        x.load(1, 1, 0, 4);
        due(22, "turned round", x.metal(2, -1), 16);
        x.joint(5, 5, 0);
        x.load(5, 3, 1, 0);
        due(22, "LOOSE MOVES have WORK", x.metal(32, -1), -2);
        due(22, "not of that CASE", x.metal(2, -1), 16);
        due(22, "the strengths stay", x.look(0, 2), 10);
        HingeFrames empty = new HingeFrames();
        empty.feed(7, 8, 0, 0, 0);
        empty.list(2);
        due(22, "no BARS", empty.metal(63, -1), 0);
        due(22, "no BARS", empty.metal(63, 0), 7);
        HingeFrames one = new HingeFrames();
        one.joint(0, 0, 7);
        one.joint(1, 0, 0);
        one.bar(0, 1, 0, 0);
        one.load(0, 1, 0, 1);
        one.feed(0, 1, 2, 0, 0);
        one.list(3);
        due(22, "WORK of 1", one.metal(1, 0), 1);
    }

    private static void undo() {
        HingeFrames x = beam();
        x.pin(2, true);
        x.group(0, 2);
        x.strength(0, 1, 2);
        due(23, "strength", x.undo(), 8);
        due(23, "P", x.look(0, 2), 10);
        due(23, "group", x.undo(), 7);
        due(23, "GROUP", x.look(0, 4), 0);
        due(23, "pin", x.undo(), 6);
        due(23, "PINNED", x.look(1, 6), 0);
        due(23, "load", x.undo(), 5);
        due(23, "LOAD", x.place(1, 11), 0);
        due(23, "bar", x.undo(), 4);
        due(23, "BARS", x.count(1), 1);
        x.undo();
        due(23, "joint", x.undo(), 2);
        due(23, "JOINTS", x.count(0), 2);
        x.undo();
        due(23, "the first one", x.undo(), 0);
        due(23, "there is none", x.undo(), -1);
        due(23, "all can be done again", x.count(4), 9);
        HingeFrames y = beam();
        y.load(9, 9, 9, 9);
        y.feed(0, 0, 0, 0, 0);
        due(23, "refused ones are no acts", y.undo(), 5);
        due(23, "the tape stays", y.count(2), 20);
        HingeFrames z = new HingeFrames();
        z.joint(0, 0, 7);
        for (int i = 1; i <= 70; i++) {
            z.load(0, 0, i, -i);
        }
        due(23, "the latest 60", z.count(3), 60);
        for (int i = 59; i >= 0; i--) {
            due(23, "undo()", z.undo(), i);
            due(23, "LOAD", z.place(0, 10), i + 10);
        }
        due(23, "there is none", z.undo(), -1);
        due(23, "LOAD", z.place(0, 11), -10);
        for (int i = 59; i >= 0; i--) {
            due(23, "redo()", z.redo(), i);
        }
        due(23, "LOAD", z.place(0, 10), 70);
    }

    private static void redo() {
        HingeFrames x = beam();
        due(24, "there is none", x.redo(), -1);
        x.undo();
        x.undo();
        due(24, "count(4)", x.count(4), 2);
        due(24, "refused acts leave it", x.bar(0, 0, 1, 1), -1);
        x.feed(0x00000000, 0, 0, 0, 0);
        due(24, "a SHEET that can't be leaves it", x.sheet(1), -11);
        x.feed(5, 0, 0, 0, 0);
        due(24, "a LIST leaves it", x.list(1), true);
        due(24, "the BAR", x.redo(), 1);
        due(24, "its strength", x.look(1, 3), 30);
        due(24, "the LOAD", x.redo(), 0);
        fraction(24, "greatest", x.greatest(0, 0), x.greatest(0, 1), 20, 3);
        due(24, "there is none", x.redo(), -1);
        x.undo();
        x.group(0, 0);
        due(24, "another act came", x.redo(), -1);
        due(24, "count(3)", x.count(3), 6);
        x.feed(0x00010909, 0x00010808, 0, 0, 0);
        x.sheet(2);
        x.undo();
        due(24, "a SHEET is one", x.redo(), 0);
        due(24, "all of it", x.count(1), 4);
        due(24, "its strength", x.look(3, 2), 8);
    }

    /** Frames that differ by one thing from one that was asked about just before. */
    private static void notTheOldShape() {
        int[][][] last = {
            {{2, 0, 0}, {3, 0, 0}}, {{2, 0, 0}, {2, 0, 4}}, {{0, 2, 0}, {0, 3, 0}}, {{2, 0, 0}, {2, 0, 1}}, {{2, 0, 3}, {2, 0, 7}}};
        for (int[][] pair : last) {
            HingeFrames x = new HingeFrames();
            x.joint(0, 0, 7);
            x.joint(pair[0][0], pair[0][1], pair[0][2]);
            x.bar(0, 1, 5, 5);
            x.load(0, 1, 1, 1);
            x.greatest(0, 0);
            for (int i = 0; i < 3; i++) {
                x.undo();
            }
            x.joint(pair[1][0], pair[1][1], pair[1][2]);
            x.bar(0, 1, 5, 5);
            x.load(0, 1, 1, 1);
            HingeFrames y = new HingeFrames();
            y.joint(0, 0, 7);
            y.joint(pair[1][0], pair[1][1], pair[1][2]);
            y.bar(0, 1, 5, 5);
            y.load(0, 1, 1, 1);
            for (int what = 0; what < 3; what++) {
                due(23, "free(" + what + ") of another JOINT", x.free(what), y.free(what));
            }
            fraction(23, "another JOINT", x.greatest(0, 0), x.greatest(0, 1), y.greatest(0, 0), y.greatest(0, 1));
        }
        HingeFrames first = new HingeFrames();
        first.joint(0, 0, 0);
        due(23, "the first JOINT", first.free(1), 3);
        first.undo();
        first.joint(0, 0, 7);
        due(23, "another first JOINT", first.free(1), 0);
        first.joint(1, 0, 0);
        first.joint(2, 0, 0);
        first.bar(0, 1, 1, 1);
        due(23, "the first BAR", first.free(1), 3);
        first.undo();
        first.bar(1, 2, 1, 1);
        due(23, "another first BAR", first.free(1), 3);
        due(23, "another first BAR", first.free(2), 2);
        first.load(0, 1, 0, 1);
        due(23, "which is not held", first.greatest(0, 0), 0);
        HingeFrames x = beam();
        x.joint(2, 5, 0);
        x.bar(1, 3, 4, 4);
        x.load(1, 3, 1, 0);
        // a mast of LENGTH 5 on the beam
        due(23, "the mast's JOINT is not LOOSE", x.free(1), 0);
        x.undo();
        x.undo();
        x.bar(0, 1, 4, 4);
        due(23, "another BAR", x.free(1), 3);
        x.undo();
        x.bar(0, 2, 4, 4);
        due(23, "with another second JOINT", x.free(0), 4);
        fraction(23, "with another second JOINT", x.greatest(0, 0), x.greatest(0, 1), 20, 3);
        x.undo();
        x.bar(1, 2, 4, 4);
        due(23, "with another first JOINT", x.free(0), 4);
        // (2, 3, 0, -1, 0, -1) BEARS 84
        fraction(23, "with another first JOINT", x.greatest(0, 0), x.greatest(0, 1), 7, 1);
    }

    private static void look() {
        HingeFrames x = beam();
        x.bar(2, 1, 3, 4);
        x.group(2, 1);
        x.pin(5, true);
        int[] want = {2, 1, 3, 4, 1, 4, 0, 1};
        for (int what = 0; what < 8; what++) {
            due(25, "look(2, " + what + ")", x.look(2, what), want[what]);
        }
        due(25, "others", x.look(2, 8), -1);
        due(25, "others", x.look(2, -1), -1);
        due(25, "no such BAR", x.look(3, 0), -1);
        due(25, "no such BAR", x.look(-1, 0), -1);
        due(25, "no such BAR", x.look(MIN, MAX), -1);
        x.pin(4, true);
        due(25, "END 4", x.look(2, 6), 1);
    }

    private static void place() {
        HingeFrames x = beam();
        x.joint(3, 4, 5);
        for (int c = 0; c < 6; c++) {
            x.load(c, 3, 10 + c, -20 - c);
        }
        due(26, "x", x.place(3, 0), 3);
        due(26, "y", x.place(3, 1), 4);
        due(26, "HELD", x.place(3, 2), 5);
        for (int c = 0; c < 6; c++) {
            due(26, "along x in CASE " + c, x.place(3, 10 + 2 * c), 10 + c);
            due(26, "along y in CASE " + c, x.place(3, 11 + 2 * c), -20 - c);
        }
        due(26, "others", x.place(3, 3), -1000);
        due(26, "others", x.place(3, 9), -1000);
        due(26, "others", x.place(3, 22), -1000);
        due(26, "others", x.place(3, -1), -1000);
        due(26, "others", x.place(3, MIN), -1000);
        due(26, "no such JOINT", x.place(4, 0), -1000);
        due(26, "no such JOINT", x.place(-1, 10), -1000);
        due(26, "no such JOINT", x.place(MAX, MAX), -1000);
    }

    private static void count() {
        HingeFrames x = beam();
        x.feed(1, 2, 3, 4, 5);
        x.list(3);
        x.feed(1, 2, 3, 4, 5);
        x.undo();
        int[] want = {3, 2, 20, 5, 1, 3};
        for (int what = 0; what < 6; what++) {
            due(27, "count(" + what + ")", x.count(what), want[what]);
        }
        due(27, "others", x.count(6), -1);
        due(27, "others", x.count(-1), -1);
        due(27, "others", x.count(MAX), -1);
    }

    /** Which JOINT of a BAR is the first one does not change a FALL, but for the numbers of its ENDS. */
    private static void leans() {
        for (int way = 0; way < 2; way++) {
            HingeFrames x = new HingeFrames();
            x.joint(0, 0, 7);
            x.joint(0, 3, 0);
            x.joint(2, 3, 0);
            x.joint(2, 0, 7);
            x.bar(way == 0 ? 0 : 1, way == 0 ? 1 : 0, 4, 5);
            x.bar(way == 0 ? 1 : 2, way == 0 ? 2 : 1, 9, 9);
            x.bar(way == 0 ? 2 : 3, way == 0 ? 3 : 2, 4, 5);
            x.load(0, 1, 1, 0);
            // a sway of 3 to the right: both legs lean by -1, so their four ENDS turn by 1
            fraction(13, "a sway", x.greatest(0, 0), x.greatest(0, 1), 16, 3);
            int[] sway = {1, 1, 0, 0, 1, 1};
            for (int e = 0; e < 6; e++) {
                due(13, "END " + e + " of a sway", x.fall(0, e), sway[e]);
            }
            x.load(0, 2, -2, 0);
            fraction(13, "a sway to the left", x.greatest(0, 0), x.greatest(0, 1), 20, 3);
            due(13, "END 4 of it", x.fall(0, 4), -1);
        }
    }
}
