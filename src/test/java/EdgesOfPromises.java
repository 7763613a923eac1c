import java.util.ArrayList;
import java.util.List;

/**
 * Each promise once more, sentence by sentence: says() quotes the document, and what follows it
 * stands on both sides of the boundary that the words name.
 */
public final class EdgesOfPromises {
    private static final int MIN = Integer.MIN_VALUE;
    private static final int MAX = Integer.MAX_VALUE;
    private static final long NO_TURN = -1000000000000L;
    private static int promise;
    private static String words = "";
    private static int checks = 0;
    private static int wrong = 0;

    public static void main(String[] args) {
        newObject();
        joint();
        bar();
        pin();
        strength();
        load();
        group();
        feed();
        sheet();
        sheetPlaces();
        free();
        falls();
        greatest();
        fall();
        only();
        worth();
        bends();
        bendsRefused();
        turning();
        turningRefused();
        bound();
        boundStays();
        rolls();
        out();
        list();
        listNotSo();
        metal();
        undo();
        redo();
        look();
        place();
        count();
        System.out.println(checks + " checks, " + wrong + " wrong");
        if (wrong != 0) {
            System.exit(1);
        }
    }

    private static void says(int number, String quote) {
        promise = number;
        words = quote;
    }

    private static void due(String call, long got, long want) {
        checks++;
        if (got != want) {
            wrong++;
            System.out.println("promise " + promise + ", \"" + words + "\": " + call + " answered " + got + ", due is " + want);
        }
    }

    private static void due(String call, boolean got, boolean want) {
        due(call, got ? 1 : 0, want ? 1 : 0);
    }

    private static void fraction(String call, long above, long below, long n, long d) {
        due(call + " above", above, n);
        due(call + " below", below, d);
    }

    /** Numbers that are not from least to most: the next ones, an int's own edges, and such as wrap around to allowed ones. */
    private static List<Integer> beyond(int least, int most) {
        int[] tried = {least - 1, most + 1, MIN, MAX, MIN + 1, MAX - 1, MIN + most, ~least, ~most, least + 32, most + 32,
            least + 256, most - 256, least + 65536, most + 65536, least + (1 << 24), least + (1 << 30), most - (1 << 30)};
        List<Integer> found = new ArrayList<>();
        for (int n : tried) {
            if (n < least || n > most) {
                found.add(n);
            }
        }
        return found;
    }

    /**
     * A cantilever of LENGTH 1: END 0 turns by -v, END 1 by t - v, so both turn as they like.
     * A LOAD of y in CASE 0 at its tip: upwards only END 0 by -1 has WORK y and BEARS Q.
     */
    private static HingeFrames tip(int p, int q, int y) {
        HingeFrames x = new HingeFrames();
        x.joint(0, 0, 7);
        x.joint(1, 0, 0);
        x.bar(0, 1, p, q);
        x.load(0, 1, 0, y);
        return x;
    }

    /** The tip, and a JOINT by itself, which is LOOSE, with a LOAD in CASE 1. */
    private static HingeFrames tipAndLoose() {
        HingeFrames x = tip(4, 5, 1);
        x.joint(3, 3, 0);
        x.load(1, 2, 1, 0);
        return x;
    }

    /**
     * LENGTHS 2 and 4, held at both ends: (0, 1, 1, 0), (2, 0, -3, -1) and (2, 3, 0, -1) and those
     * turned round are its PLAIN FALLS, the last two with v = -4 at JOINT 1, so WORK 12 in CASE 0.
     */
    private static HingeFrames beam() {
        HingeFrames x = new HingeFrames();
        x.joint(0, 0, 7);
        x.joint(2, 0, 0);
        x.joint(6, 0, 7);
        x.bar(0, 1, 10, 20);
        x.bar(1, 2, 6, 30);
        x.load(0, 1, 0, -3);
        return x;
    }

    /**
     * All that there is room for: seven JOINTS in a row, held at the first one, six BARS from each to
     * the next, and one more between the last two; P and Q are 12; in CASE 5 a LOAD of 1 downwards at the last JOINT.
     * Its PLAIN FALLS: one END turns alone, but for END 10 with END 12 and END 11 with END 13: 12, and turned round.
     */
    private static HingeFrames full() {
        HingeFrames x = row(7);
        for (int b = 0; b < 6; b++) {
            x.bar(b, b + 1, 12, 12);
        }
        x.bar(5, 6, 12, 12);
        x.load(5, 6, 0, -1);
        return x;
    }

    /** So many JOINTS at (0, 0), (1, 0) and so on, the first one held. */
    private static HingeFrames row(int joints) {
        HingeFrames x = new HingeFrames();
        for (int j = 0; j < joints; j++) {
            x.joint(j, 0, j == 0 ? 7 : 0);
        }
        return x;
    }

    private static HingeFrames withList(HingeFrames x, int... strengths) {
        int[] w = new int[10];
        System.arraycopy(strengths, 0, w, 0, strengths.length);
        x.feed(w[0], w[1], w[2], w[3], w[4]);
        x.feed(w[5], w[6], w[7], w[8], w[9]);
        x.list(strengths.length);
        return x;
    }

    private static void newObject() {
        says(1, "No JOINTS");
        HingeFrames x = new HingeFrames();
        due("count(0)", x.count(0), 0);
        due("place(0, 0)", x.place(0, 0), -1000);
        due("count(1)", x.count(1), 0);
        due("look(0, 0)", x.look(0, 0), -1);
        due("count(2)", x.count(2), 0);
        due("count(3)", x.count(3), 0);
        due("count(4)", x.count(4), 0);
        due("bound(0)", x.bound(0), -1);
        due("bound(1)", x.bound(1), -1);
        for (int what = 0; what <= 2; what++) {
            due("free(" + what + ")", x.free(what), 0);
        }
        due("falls(-1)", x.falls(-1), 0);
        says(1, "no LOADS");
        for (int c = 0; c < 6; c++) {
            due("falls(" + c + ")", x.falls(c), 0);
            due("greatest(" + c + ", 0)", x.greatest(c, 0), -2);
            due("greatest(" + c + ", 1)", x.greatest(c, 1), -2);
            due("fall(" + c + ", 0)", x.fall(c, 0), NO_TURN);
            due("only(" + c + ")", x.only(c), -1);
        }
        x.joint(0, 0, 0);
        for (int what = 10; what <= 21; what++) {
            due("place(0, " + what + ")", x.place(0, what), 0);
        }
        says(1, "no LIST.");
        due("count(5)", x.count(5), 0);
        due("metal(63, -1)", x.metal(63, -1), -1);
        due("metal(1, 0)", x.metal(1, 0), -1);
    }

    private static void joint() {
        says(2, "A JOINT: its number");
        int[][] edges = {{0, 0, 0}, {6, 0, 7}, {0, 6, 1}, {6, 6, 2}, {3, 0, 4}, {0, 3, 6}, {6, 5, 5}};
        HingeFrames x = new HingeFrames();
        for (int j = 0; j < 7; j++) {
            due("joint " + j, x.joint(edges[j][0], edges[j][1], edges[j][2]), j);
            due("count(0)", x.count(0), j + 1);
            for (int what = 0; what < 3; what++) {
                due("place(" + j + ", " + what + ")", x.place(j, what), edges[j][what]);
            }
        }
        says(2, "7 are.");
        due("an eighth JOINT", x.joint(3, 3, 0), -1);
        due("an eighth JOINT where one is", x.joint(6, 6, 2), -1);
        due("count(0)", x.count(0), 7);
        due("count(3)", x.count(3), 7);
        x.undo();
        due("a seventh JOINT again", x.joint(3, 3, 0), 6);
        says(2, "NONE: no such ones");
        HingeFrames y = new HingeFrames();
        for (int n : beyond(0, 6)) {
            due("joint(" + n + ", 0, 0)", y.joint(n, 0, 0), -1);
            due("joint(0, " + n + ", 0)", y.joint(0, n, 0), -1);
            due("joint(" + n + ", " + n + ", 7)", y.joint(n, n, 7), -1);
        }
        for (int n : beyond(0, 7)) {
            due("joint(0, 0, " + n + ")", y.joint(0, 0, n), -1);
        }
        due("count(0)", y.count(0), 0);
        due("count(3)", y.count(3), 0);
        says(2, "one is there");
        due("joint(6, 6, 7)", y.joint(6, 6, 7), 0);
        due("the same again", y.joint(6, 6, 7), -1);
        due("with another HELD", y.joint(6, 6, 0), -1);
        due("HELD stays", y.place(0, 2), 7);
        due("next to it in the column", y.joint(6, 5, 0), 1);
        due("next to it in the row", y.joint(5, 6, 0), 2);
        due("x and y turned round", y.joint(5, 6, 0), -1);
        y.undo();
        due("where one was that is undone", y.joint(5, 6, 3), 2);
    }

    private static void bar() {
        says(3, "A BAR: its number");
        HingeFrames x = new HingeFrames();
        x.joint(0, 0, 0);
        x.joint(6, 0, 0);
        x.joint(6, 6, 0);
        x.joint(5, 6, 0);
        int[][] edges = {{0, 1, 0, 0}, {1, 0, 1000, 1000}, {1, 2, 0, 1000}, {2, 1, 1000, 0}, {2, 3, 1, 2}, {3, 2, 999, 3}, {0, 1, 4, 4}};
        for (int b = 0; b < 7; b++) {
            due("bar " + b, x.bar(edges[b][0], edges[b][1], edges[b][2], edges[b][3]), b);
            due("count(1)", x.count(1), b + 1);
            for (int what = 0; what < 4; what++) {
                due("look(" + b + ", " + what + ")", x.look(b, what), edges[b][what]);
            }
        }
        says(3, "7 are there.");
        due("an eighth BAR", x.bar(0, 1, 1, 1), -1);
        due("count(1)", x.count(1), 7);
        due("count(3)", x.count(3), 11);
        x.undo();
        due("a seventh BAR again", x.bar(2, 1, 5, 6), 6);
        says(3, "NONE: no such ones");
        HingeFrames y = new HingeFrames();
        due("without JOINTS", y.bar(0, 1, 1, 1), -1);
        due("without JOINTS", y.bar(0, 0, 1, 1), -1);
        y.joint(2, 2, 0);
        due("with one JOINT", y.bar(0, 1, 1, 1), -1);
        due("with one JOINT", y.bar(1, 0, 1, 1), -1);
        due("from a JOINT to itself", y.bar(0, 0, 1, 1), -1);
        y.joint(2, 3, 0);
        for (int n : beyond(0, 1)) {
            due("bar(" + n + ", 0, 1, 1)", y.bar(n, 0, 1, 1), -1);
            due("bar(1, " + n + ", 1, 1)", y.bar(1, n, 1, 1), -1);
        }
        for (int n : beyond(0, 1000)) {
            due("bar(0, 1, " + n + ", 1)", y.bar(0, 1, n, 1), -1);
            due("bar(0, 1, 1, " + n + ")", y.bar(0, 1, 1, n), -1);
        }
        due("count(1)", y.count(1), 0);
        due("count(3)", y.count(3), 2);
        due("bar(0, 1, 1, 1)", y.bar(0, 1, 1, 1), 0);
        says(3, "not in one row or column");
        HingeFrames z = new HingeFrames();
        z.joint(2, 2, 0);
        int[][] aside = {{3, 3}, {1, 3}, {3, 1}, {1, 1}};
        for (int[] at : aside) {
            int j = z.joint(at[0], at[1], 0);
            due("aside", z.bar(0, j, 1, 1), -1);
            due("aside", z.bar(j, 0, 1, 1), -1);
        }
        due("in one row", z.bar(1, 2, 1, 1), 0);
        due("in one column", z.bar(1, 3, 1, 1), 1);
        due("aside", z.bar(1, 4, 1, 1), -1);
    }

    private static void pin() {
        says(4, "END e is PINNED (or not any more): true");
        HingeFrames x = full();
        for (int e = 0; e < 14; e++) {
            due("pin(" + e + ", true)", x.pin(e, true), true);
            due("look", x.look(e / 2, 6 + e % 2), 1);
            due("the next END's", e < 13 ? x.look((e + 1) / 2, 6 + (e + 1) % 2) : 0, 0);
        }
        due("all are PINNED: TURNS", x.free(2), 0);
        for (int e = 0; e < 14; e++) {
            due("pin(" + e + ", false)", x.pin(e, false), true);
            due("look", x.look(e / 2, 6 + e % 2), 0);
        }
        due("none is PINNED: TURNS", x.free(2), 12);
        says(4, "false: no such one");
        HingeFrames y = new HingeFrames();
        due("without BARS", y.pin(0, true), false);
        due("without BARS", y.pin(1, false), false);
        HingeFrames z = tip(1, 1, 1);
        for (int n : beyond(0, 1)) {
            due("pin(" + n + ", true) with one BAR", z.pin(n, true), false);
            due("pin(" + n + ", false) with one BAR", z.pin(n, false), false);
        }
        for (int n : beyond(0, 13)) {
            due("pin(" + n + ", true) with seven", x.pin(n, true), false);
        }
        due("none is PINNED", z.look(0, 6) + z.look(0, 7), 0);
        due("count(3)", z.count(3), 4);
        due("the last one", z.pin(1, true), true);
        says(4, "it is so.");
        due("PINNED twice", z.pin(1, true), false);
        due("it stays", z.look(0, 7), 1);
        due("not PINNED at first", z.pin(0, false), false);
        due("count(3)", z.count(3), 5);
        due("not any more", z.pin(1, false), true);
        due("not any more twice", z.pin(1, false), false);
        z.undo();
        due("PINNED by UNDO", z.pin(1, true), false);
        due("not any more", z.pin(1, false), true);
    }

    private static void strength() {
        says(5, "STRENGTH of BAR b: true");
        HingeFrames x = full();
        int[][] edges = {{0, 0, 0}, {6, 1000, 1000}, {3, 0, 1000}, {3, 1000, 0}};
        for (int[] s : edges) {
            due("strength(" + s[0] + ", ..)", x.strength(s[0], s[1], s[2]), true);
            due("P", x.look(s[0], 2), s[1]);
            due("Q", x.look(s[0], 3), s[2]);
            due("another BAR's", x.look(2, 2) + x.look(4, 3), 24);
        }
        due("what it is already", x.strength(3, 1000, 0), true);
        says(5, "false: no such ones.");
        due("without BARS", new HingeFrames().strength(0, 1, 1), false);
        HingeFrames y = beam();
        for (int n : beyond(0, 1)) {
            due("strength(" + n + ", 1, 1)", y.strength(n, 1, 1), false);
        }
        for (int n : beyond(0, 6)) {
            due("strength(" + n + ", 1, 1) of seven", x.strength(n, 1, 1), false);
        }
        for (int n : beyond(0, 1000)) {
            due("strength(1, " + n + ", 1)", y.strength(1, n, 1), false);
            due("strength(1, 1, " + n + ")", y.strength(1, 1, n), false);
        }
        due("P stays", y.look(1, 2), 6);
        due("Q stays", y.look(1, 3), 30);
        due("count(3)", y.count(3), 6);
    }

    private static void load() {
        says(6, "The LOAD of a CASE at JOINT j: true");
        HingeFrames x = row(7);
        int[][] edges = {{0, 0, -100, 100}, {5, 6, 100, -100}, {5, 0, -100, -100}, {0, 6, 100, 100}, {3, 3, 0, 0}};
        for (int[] l : edges) {
            due("load(" + l[0] + ", " + l[1] + ", ..)", x.load(l[0], l[1], l[2], l[3]), true);
            due("along x", x.place(l[1], 10 + 2 * l[0]), l[2]);
            due("along y", x.place(l[1], 11 + 2 * l[0]), l[3]);
        }
        due("the first one stays", x.place(0, 10), -100);
        due("another CASE's", x.place(0, 12), 0);
        due("another JOINT's", x.place(1, 10), 0);
        due("what it is already", x.load(3, 3, 0, 0), true);
        due("count(3)", x.count(3), 13);
        says(6, "false: no such ones.");
        due("without JOINTS", new HingeFrames().load(0, 0, 1, 1), false);
        HingeFrames y = tip(1, 1, 7);
        for (int n : beyond(0, 5)) {
            due("load(" + n + ", 1, 1, 1)", y.load(n, 1, 1, 1), false);
        }
        for (int n : beyond(0, 1)) {
            due("load(0, " + n + ", 1, 1)", y.load(0, n, 1, 1), false);
        }
        for (int n : beyond(0, 6)) {
            due("load(0, " + n + ", 1, 1) of seven", x.load(0, n, 1, 1), false);
        }
        for (int n : beyond(-100, 100)) {
            due("load(0, 1, " + n + ", 1)", y.load(0, 1, n, 1), false);
            due("load(0, 1, 1, " + n + ")", y.load(0, 1, 1, n), false);
        }
        due("along x stays", y.place(1, 10), 0);
        due("along y stays", y.place(1, 11), 7);
        due("count(3)", y.count(3), 4);
    }

    private static void group() {
        says(7, "BAR b is of a GROUP: true");
        HingeFrames x = full();
        int[][] edges = {{0, 2}, {6, 2}, {6, 1}, {3, 0}, {6, 0}};
        for (int[] g : edges) {
            due("group(" + g[0] + ", " + g[1] + ")", x.group(g[0], g[1]), true);
            due("look", x.look(g[0], 4), g[1]);
        }
        due("what it is already", x.group(6, 0), true);
        due("another BAR's", x.look(0, 4), 2);
        due("count(3)", x.count(3), 21);
        says(7, "false: no such ones.");
        due("without BARS", new HingeFrames().group(0, 0), false);
        HingeFrames y = beam();
        y.group(1, 1);
        for (int n : beyond(0, 1)) {
            due("group(" + n + ", 1)", y.group(n, 1), false);
        }
        for (int n : beyond(0, 6)) {
            due("group(" + n + ", 1) of seven", x.group(n, 1), false);
        }
        for (int n : beyond(0, 2)) {
            due("group(1, " + n + ")", y.group(1, n), false);
        }
        due("it stays", y.look(1, 4), 1);
        due("count(3)", y.count(3), 7);
    }

    private static void feed() {
        says(8, "how many it has");
        HingeFrames x = new HingeFrames();
        for (int i = 1; i <= 10; i++) {
            due("feed " + i, x.feed(MIN, MAX, -1, 0, i), 20 * i);
            due("count(2)", x.count(2), 20 * i);
        }
        says(8, "NONE if that would be more than 200.");
        due("an eleventh", x.feed(0, 0, 0, 0, 0), -1);
        due("count(2)", x.count(2), 200);
        due("an eleventh again", x.feed(1, 2, 3, 4, 5), -1);
        due("count(2)", x.count(2), 200);
        x.bends(0, 0, 1);
        due("behind an empty tape", x.feed(1, 2, 3, 4, 5), 20);
        due("no act", x.count(3), 0);
        says(8, "Twenty bytes come behind the tape");
        // at the tip a LOAD of 77 asks for the sixth strength, whose bytes the second feed brought
        HingeFrames y = tip(1, 1, 77);
        y.feed(1, 2, 3, 4, 5);
        y.feed(77, 0, 0, 0, 0);
        due("list(6)", y.list(6), true);
        due("metal(1, 0)", y.metal(1, 0), 77);
        // seven BARS by 28 bytes
        HingeFrames z = row(2);
        z.feed(0x00010102, 0x00010304, 0x00010506, 0x00010708, 0x0001090a);
        z.feed(0x01000b0c, 0x00010d0e, 0x7fffffff, MIN, -1);
        due("sheet(7)", z.sheet(7), 7);
        for (int b = 0; b < 7; b++) {
            due("P of BAR " + b, z.look(b, 2), 2 * b + 1);
            due("Q of BAR " + b, z.look(b, 3), 2 * b + 2);
        }
        due("first JOINT of BAR 5", z.look(5, 0), 1);
        HingeFrames kept = beam();
        kept.feed(0x00010102, 0x00020304, 0, 0, 0);
        kept.load(1, 1, 5, 5);
        kept.undo();
        kept.redo();
        kept.pin(0, true);
        kept.greatest(0, 0);
        kept.out(0, 0, 0);
        kept.metal(1, -1);
        due("acts and questions leave the tape", kept.count(2), 20);
        due("acts and questions leave the tape", kept.sheet(2), 4);
        due("P of BAR 3", kept.look(3, 2), 3);
        says(8, "the highest of each int first");
        HingeFrames w = row(2);
        w.feed(0x0100ff80, 0x00017fff, 0, 0, 0);
        w.sheet(2);
        int[] want = {1, 0, 255, 128};
        for (int what = 0; what < 4; what++) {
            due("look(0, " + what + ")", w.look(0, what), want[what]);
        }
        due("P of BAR 1", w.look(1, 2), 127);
        due("Q of BAR 1", w.look(1, 3), 255);
        HingeFrames v = row(2);
        v.feed(MIN, 0, 0, 0, 0);
        due("128 is no JOINT", v.sheet(1), -10);
        v.feed(0x00ffffff, 0, 0, 0, 0);
        due("255 is no JOINT", v.sheet(1), -11);
    }

    private static void sheet() {
        says(9, "A SHEET of n BARS by the first 4 n bytes of the tape");
        HingeFrames x = row(2);
        x.feed(0x00010000, 0xffffffff, 0xffffffff, 0xffffffff, 0xffffffff);
        due("sheet(1)", x.sheet(1), 1);
        due("P", x.look(0, 2), 0);
        due("Q", x.look(0, 3), 0);
        due("GROUP", x.look(0, 4), 0);
        due("LENGTH", x.look(0, 5), 1);
        due("PINNED", x.look(0, 6) + x.look(0, 7), 0);
        says(9, "(empty then)");
        due("count(2)", x.count(2), 0);
        HingeFrames whole = row(2);
        for (int i = 0; i < 10; i++) {
            whole.feed(0x0001ffff, 0x0100ffff, 0x0001ffff, 0x0100ffff, 0x0001ffff);
        }
        says(9, "how many BARS there are");
        due("sheet(7) of 200 bytes", whole.sheet(7), 7);
        due("count(1)", whole.count(1), 7);
        due("count(2)", whole.count(2), 0);
        due("P of the last one", whole.look(6, 2), 255);
        HingeFrames behind = beam();
        behind.feed(0x02010102, 0x00020304, 0, 0, 0);
        due("behind two BARS", behind.sheet(2), 4);
        due("JOINT", behind.look(2, 0), 2);
        due("LENGTH", behind.look(3, 5), 6);
        says(9, "NONE: n is not 1 to 7");
        HingeFrames y = row(2);
        y.feed(0x00010101, 0x00010101, 0x00010101, 0x00010101, 0x00010101);
        y.feed(0x00010101, 0x00010101, 0x00010101, 0x00010101, 0x00010101);
        for (int n : beyond(1, 7)) {
            due("sheet(" + n + ")", y.sheet(n), -1);
        }
        // four times these are few bytes, or none, if an int wraps around
        int[] wraps = {0x40000001, 0xC0000001, 0x40000000, 0x80000001, -7};
        for (int n : wraps) {
            due("sheet(" + n + ")", y.sheet(n), -1);
        }
        says(9, "(the tape stays).");
        due("count(2)", y.count(2), 40);
        due("sheet(7)", y.sheet(7), 7);
        says(9, "more than 7 then");
        y.feed(0x00010101, 0x00010101, 0, 0, 0);
        due("an eighth", y.sheet(1), -1);
        y.undo();
        due("BARS behind UNDO", y.count(1), 0);
        due("sheet(2)", y.sheet(2), 2);
        HingeFrames six = row(2);
        for (int b = 0; b < 6; b++) {
            six.bar(0, 1, 1, 1);
        }
        six.feed(0x00010909, 0x00010909, 0, 0, 0);
        due("two behind six", six.sheet(2), -1);
        due("two that can't be behind six", six.sheet(3), -1);
        due("the tape stays", six.count(2), 20);
        due("no act", six.count(3), 8);
        due("one behind six", six.sheet(1), 7);
        sheetHasNotSoMany();
    }

    private static void sheetHasNotSoMany() {
        says(9, "it has not so many");
        HingeFrames x = row(2);
        for (int n = 1; n <= 7; n++) {
            due("no bytes for " + n, x.sheet(n), -1);
        }
        x.feed(0x00010101, 0x00010101, 0x00010101, 0x00010101, 0x00010102);
        due("20 bytes for 7", x.sheet(7), -1);
        due("20 bytes for 6", x.sheet(6), -1);
        due("the tape stays", x.count(2), 20);
        due("no BARS", x.count(1), 0);
        due("20 bytes for 5", x.sheet(5), 5);
        due("by the fifth four", x.look(4, 3), 2);
        HingeFrames bad = row(2);
        bad.feed(-1, -1, -1, -1, -1);
        due("20 bytes that can't be for 6", bad.sheet(6), -1);
        due("the tape stays", bad.count(2), 20);
        due("20 bytes that can't be for 5", bad.sheet(5), -10);
        due("empty then", bad.count(2), 0);
    }

    /** Each of the seven fours once with a first JOINT that is none, a second one, the same twice, one that lies aside. */
    private static void sheetPlaces() {
        says(9, "-10 less the place of the first byte that can't be");
        for (int i = 0; i < 7; i++) {
            sheetPlace(i, 0x03000101, -10 - 4 * i);
            sheetPlace(i, 0xff000101, -10 - 4 * i);
            sheetPlace(i, 0x03030101, -10 - 4 * i);
            sheetPlace(i, 0x00030101, -11 - 4 * i);
            sheetPlace(i, 0x00ff0101, -11 - 4 * i);
            sheetPlace(i, 0x00000101, -11 - 4 * i);
            sheetPlace(i, 0x02020101, -11 - 4 * i);
            sheetPlace(i, 0x01020101, -11 - 4 * i);
            sheetPlace(i, 0x02010101, -11 - 4 * i);
        }
        HingeFrames none = new HingeFrames();
        none.feed(0, 0, 0, 0, 0);
        due("without JOINTS", none.sheet(1), -10);
        HingeFrames one = row(1);
        one.feed(0x00010000, 0, 0, 0, 0);
        due("with one JOINT", one.sheet(1), -11);
        HingeFrames many = row(7);
        many.feed(0x00060000, 0x06050000, 0x07000000, 0, 0);
        due("with seven JOINTS", many.sheet(3), -18);
        HingeFrames two = row(2);
        two.feed(0x00010101, 0x02000101, 0x00000101, 0, 0);
        due("the first of two", two.sheet(3), -14);
    }

    private static void sheetPlace(int i, int four, int want) {
        HingeFrames x = new HingeFrames();
        x.joint(0, 0, 0);
        x.joint(1, 0, 0);
        x.joint(0, 1, 0);
        x.load(0, 0, 5, 5);
        x.undo();
        int[] fours = new int[10];
        for (int k = 0; k < 10; k++) {
            fours[k] = k < i ? (k % 2 == 0 ? 0x0001ffff : 0x01000000) : k == i ? four : -1;
        }
        x.feed(fours[0], fours[1], fours[2], fours[3], fours[4]);
        x.feed(fours[5], fours[6], fours[7], fours[8], fours[9]);
        due("four " + i + " is " + Integer.toHexString(four), x.sheet(7), want);
        due("none is taken", x.count(1), 0);
        due("empty then", x.count(2), 0);
        due("no act", x.count(3), 3);
        due("REDO is left", x.count(4), 1);
    }

    private static void free() {
        says(10, "What 0 FREE");
        due("without JOINTS", new HingeFrames().free(0), 0);
        due("two ENDS, two TURNS", tip(1, 1, 1).free(0), 0);
        due("the beam", beam().free(0), 2);
        due("14 ENDS, 12 TURNS", full().free(0), 2);
        HingeFrames x = row(2);
        x.joint(6, 6, 0);
        for (int b = 0; b < 7; b++) {
            x.bar(0, 1, 1, 1);
        }
        due("seven BARS side by side", x.free(0), 12);
        HingeFrames held = new HingeFrames();
        held.joint(0, 0, 7);
        held.joint(1, 0, 7);
        for (int b = 0; b < 7; b++) {
            held.bar(0, 1, 1, 1);
        }
        due("all 14 bends", held.free(0), 14);
        for (int e = 0; e < 14; e++) {
            held.pin(e, true);
        }
        due("all PINNED", held.free(0), 0);
        says(10, "1 how many MOVES must be told so that all LOOSE ones are sums of them");
        due("without JOINTS", new HingeFrames().free(1), 0);
        due("no LOOSE ones", tip(1, 1, 1).free(1), 0);
        due("the JOINT aside", x.free(1), 3);
        due("all HELD", held.free(1), 0);
        HingeFrames all = new HingeFrames();
        for (int j = 0; j < 7; j++) {
            all.joint(j, j, 0);
        }
        due("seven JOINTS", all.free(1), 21);
        says(10, "2 how many so that all TURNS are.");
        due("without JOINTS", new HingeFrames().free(2), 0);
        due("no BARS", all.free(2), 0);
        due("all HELD", held.free(2), 0);
        due("two", x.free(2), 2);
        due("twelve", full().free(2), 12);
        says(10, "NONE for others.");
        for (int n : beyond(0, 2)) {
            due("free(" + n + ")", x.free(n), -1);
            due("free(" + n + ") without JOINTS", new HingeFrames().free(n), -1);
        }
    }

    private static void falls() {
        says(11, "How many PLAIN FALLS there are, turned round ones too (c NONE)");
        due("without JOINTS", new HingeFrames().falls(-1), 0);
        due("without BARS", row(7).falls(-1), 0);
        due("two ENDS alone", tip(1, 1, 1).falls(-1), 4);
        due("the beam", beam().falls(-1), 6);
        due("the full row", full().falls(-1), 24);
        HingeFrames held = new HingeFrames();
        held.joint(0, 0, 7);
        held.joint(1, 0, 7);
        held.bar(0, 1, 1, 1);
        due("all HELD", held.falls(-1), 0);
        HingeFrames pins = tip(1, 1, 1);
        pins.pin(0, true);
        due("one END is left", pins.falls(-1), 2);
        pins.pin(1, true);
        due("none is left", pins.falls(-1), 0);
        due("LOOSE MOVES have WORK, which is not asked", tipAndLoose().falls(-1), 4);
        says(11, "or those with WORK above 0 of a CASE");
        due("the tip", tip(1, 1, 1).falls(0), 1);
        due("the other way", tip(1, 1, -1).falls(0), 1);
        due("no LOAD", tip(1, 1, 0).falls(0), 0);
        due("the beam", beam().falls(0), 2);
        due("the last CASE", full().falls(5), 11);
        due("a CASE without LOADS", full().falls(0), 0);
        says(11, "NONE: no such CASE");
        HingeFrames x = full();
        for (int n : beyond(-1, 5)) {
            due("falls(" + n + ")", x.falls(n), -1);
        }
        due("falls(-2) without JOINTS", new HingeFrames().falls(-2), -1);
        says(11, "LOOSE MOVES have WORK of it.");
        HingeFrames y = tipAndLoose();
        due("falls(1)", y.falls(1), -1);
        due("falls(0)", y.falls(0), 1);
        y.load(1, 2, 0, -1);
        due("falls(1) along y", y.falls(1), -1);
        y.load(1, 2, 0, 0);
        due("falls(1) without its LOAD", y.falls(1), 0);
    }

    private static void greatest() {
        says(12, "THE GREATEST of a CASE, what 0 above, 1 below the line");
        fraction("the strongest with the least LOAD", tip(1000, 1000, 1).greatest(0, 0), tip(1000, 1000, 1).greatest(0, 1), 1000, 1);
        fraction("with the greatest LOAD", tip(1, 7, 100).greatest(0, 0), tip(1, 7, 100).greatest(0, 1), 7, 100);
        fraction("no strength", tip(5, 0, 1).greatest(0, 0), tip(5, 0, 1).greatest(0, 1), 0, 1);
        HingeFrames x = full();
        fraction("the last CASE", x.greatest(5, 0), x.greatest(5, 1), 2, 1);
        x.load(0, 6, 0, -5);
        fraction("the first CASE", x.greatest(0, 0), x.greatest(0, 1), 2, 5);
        HingeFrames y = tipAndLoose();
        fraction("by LOOSE MOVES", y.greatest(1, 0), y.greatest(1, 1), 0, 1);
        says(12, "-2: none");
        due("without JOINTS", new HingeFrames().greatest(0, 0), -2);
        due("without JOINTS", new HingeFrames().greatest(5, 1), -2);
        for (int c = 1; c < 5; c++) {
            due("no LOADS, above", x.greatest(c, 0), -2);
            due("no LOADS, below", x.greatest(c, 1), -2);
        }
        x.load(1, 0, 100, -100);
        due("a LOAD where all is HELD", x.greatest(1, 0), -2);
        x.load(1, 6, 100, 0);
        due("a LOAD along the BARS", x.greatest(1, 1), -2);
        says(12, "NONE: no such ones.");
        for (int n : beyond(0, 5)) {
            due("greatest(" + n + ", 0)", x.greatest(n, 0), -1);
            due("greatest(" + n + ", 1)", x.greatest(n, 1), -1);
        }
        for (int n : beyond(0, 1)) {
            due("greatest(5, " + n + ")", x.greatest(5, n), -1);
            due("greatest(2, " + n + ") where there is none", x.greatest(2, n), -1);
            due("greatest(1, " + n + ") by LOOSE MOVES", y.greatest(1, n), -1);
        }
    }

    private static void fall() {
        says(13, "THE FALL of a CASE: THE TURN of END e");
        HingeFrames x = beam();
        long[] turns = {2, 3, 0, -1};
        for (int e = 0; e < 4; e++) {
            due("END " + e, x.fall(0, e), turns[e]);
        }
        HingeFrames y = full();
        for (int e = 0; e < 14; e++) {
            due("END " + e + " of the row", y.fall(5, e), e == 0 ? 1 : 0);
        }
        y.strength(5, 0, 0);
        y.strength(6, 0, 0);
        for (int e = 0; e < 14; e++) {
            due("END " + e + " of a row that is weak at its end", y.fall(5, e), e == 10 || e == 12 ? 1 : 0);
        }
        due("END 0 of a FALL that bears 0", tip(5, 0, 1).fall(0, 0), -1);
        says(13, "(PINNED: 0)");
        y.pin(12, true);
        for (int e = 0; e < 14; e++) {
            due("END " + e + " with one PINNED", y.fall(5, e), e == 10 ? 1 : 0);
        }
        x.pin(0, true);
        long[] pinned = {0, 3, 0, -1};
        for (int e = 0; e < 4; e++) {
            due("END " + e + " with one PINNED", x.fall(0, e), pinned[e]);
        }
        says(13, "-1000000000000: no such ones");
        for (int n : beyond(0, 3)) {
            due("fall(0, " + n + ")", x.fall(0, n), NO_TURN);
        }
        for (int n : beyond(0, 13)) {
            due("fall(5, " + n + ") of seven BARS", y.fall(5, n), NO_TURN);
        }
        for (int n : beyond(0, 5)) {
            due("fall(" + n + ", 0)", x.fall(n, 0), NO_TURN);
        }
        due("without BARS", new HingeFrames().fall(0, 0), NO_TURN);
        due("a PINNED END of a CASE that is none", x.fall(6, 0), NO_TURN);
        says(13, "there is none.");
        for (int c = 1; c < 6; c++) {
            due("no LOADS in CASE " + c, x.fall(c, 1), NO_TURN);
            due("at a PINNED END", x.fall(c, 0), NO_TURN);
        }
        HingeFrames z = tipAndLoose();
        due("LOOSE MOVES have WORK", z.fall(1, 0), NO_TURN);
        due("LOOSE MOVES have none", z.fall(0, 0), -1);
    }

    private static void only() {
        says(14, "Whether THE FALL of a CASE is ONLY: 1, 0");
        due("the last CASE", full().only(5), 1);
        HingeFrames x = beam();
        due("one alone", x.only(0), 1);
        // (2, 0, -3, -1) BEARS 20 + 3 Q + Q, (2, 3, 0, -1) 50 + Q
        x.strength(1, 6, 11);
        due("the other one BEARS 3 more", x.only(0), 1);
        x.strength(1, 6, 10);
        due("two like ones", x.only(0), 0);
        x.strength(1, 6, 9);
        due("the other one", x.only(0), 1);
        due("one that bears 0", tip(5, 0, 1).only(0), 1);
        says(14, "NONE: no such CASE");
        for (int n : beyond(0, 5)) {
            due("only(" + n + ")", x.only(n), -1);
        }
        says(14, "there is none.");
        due("without JOINTS", new HingeFrames().only(0), -1);
        for (int c = 1; c < 6; c++) {
            due("no LOADS in CASE " + c, x.only(c), -1);
        }
        due("LOOSE MOVES have WORK", tipAndLoose().only(1), -1);
        due("LOOSE MOVES have none", tipAndLoose().only(0), 1);
    }

    private static void worth() {
        says(15, "WORTH of BAR b in a CASE, what 0 above, 1 below the line");
        HingeFrames x = full();
        fraction("BAR 0", x.worth(5, 0, 0), x.worth(5, 0, 1), 13, 6);
        fraction("BAR 6", x.worth(5, 6, 0), x.worth(5, 6, 1), 2, 1);
        fraction("0 and 1 more", tip(5, 0, 1).worth(0, 0, 0), tip(5, 0, 1).worth(0, 0, 1), 1, 1);
        fraction("1000 and 1 more", tip(5, 1000, 1).worth(0, 0, 0), tip(5, 1000, 1).worth(0, 0, 1), 1001, 1);
        fraction("P, too", tip(1000, 5, -1).worth(0, 0, 0), tip(1000, 5, -1).worth(0, 0, 1), 1001, 1);
        due("the strength stays", x.look(0, 2), 12);
        fraction("THE GREATEST stays", x.greatest(5, 0), x.greatest(5, 1), 2, 1);
        fraction("0 by LOOSE MOVES stays 0", tipAndLoose().worth(1, 0, 0), tipAndLoose().worth(1, 0, 1), 0, 1);
        says(15, "-2: none");
        for (int c = 0; c < 5; c++) {
            due("no LOADS in CASE " + c, x.worth(c, 0, 0), -2);
            due("no LOADS in CASE " + c, x.worth(c, 6, 1), -2);
        }
        says(15, "NONE: no such ones.");
        for (int n : beyond(0, 5)) {
            due("worth(" + n + ", 0, 0)", x.worth(n, 0, 0), -1);
        }
        for (int n : beyond(0, 6)) {
            due("worth(5, " + n + ", 0)", x.worth(5, n, 0), -1);
        }
        for (int n : beyond(0, 1)) {
            due("worth(5, 0, " + n + ")", x.worth(5, 0, n), -1);
            due("worth(0, 0, " + n + ") where there is none", x.worth(0, 0, n), -1);
        }
        HingeFrames y = beam();
        due("a third BAR of two", y.worth(0, 2, 0), -1);
        due("the second one of two", y.worth(0, 1, 1), 4);
        due("without BARS", new HingeFrames().worth(0, 0, 0), -1);
    }

    private static int toldBends(HingeFrames x, int m0, int m1, int c, int n, int d) {
        x.feed(m0, m1, MAX, MIN, -1);
        int answer = x.bends(c, n, d);
        due("the tape is empty then", x.count(2), 0);
        return answer;
    }

    /** At the tip bends BALANCE a LOAD y times f, if that of END 1 is 0 and that of END 0 is -y f. */
    private static void bends() {
        says(16, "0 they BALANCE CASE c times n / d and are WITHIN strength");
        HingeFrames x = tip(1000, 1000, 1);
        x.load(5, 1, 0, -1);
        due("-1000 of Q 1000", toldBends(x, -1000, 0, 0, 1000, 1), 0);
        due("1000 of P 1000", toldBends(x, 1000, 0, 0, -1000, 1), 0);
        due("n 1000000, d 1000", toldBends(x, -1000, 0, 0, 1000000, 1000), 0);
        due("n -1000000, d 1000", toldBends(x, 1000, 0, 0, -1000000, 1000), 0);
        due("CASE 5", toldBends(x, 1000, 0, 5, 1000000, 1000), 0);
        due("0 times", toldBends(x, 0, 0, 0, 0, 1), 0);
        due("0 times", toldBends(x, 0, 0, 0, 0, 1000), 0);
        due("no LOADS", toldBends(x, 0, 0, 3, 1000000, 1), 0);
        says(16, "1 they don't BALANCE");
        due("1 more", toldBends(x, -999, 0, 0, 1000000, 1000), 1);
        due("1 less", toldBends(x, -1001, 0, 0, 1000000, 1000), 1);
        due("the other sign", toldBends(x, 1000, 0, 0, 1000, 1), 1);
        due("END 1 bends", toldBends(x, -1000, 1, 0, 1000, 1), 1);
        due("n 1 more", toldBends(x, -1000, 0, 0, 1000000 - 1, 1000), 1);
        due("d 1 less", toldBends(x, -1000, 0, 0, 1000000, 999), 1);
        due("no LOADS", toldBends(x, 1, 0, 3, 0, 1), 1);
        int[] great = {MIN, MAX, 1 << 30, 1 << 29, 1 << 28, 1 << 26, 1 << 25, 1 << 24, -1 << 28};
        for (int m : great) {
            due(m + " against no LOAD", toldBends(x, m, 0, 3, 0, 1), 1);
            due(m + " and " + m + " against no LOAD", toldBends(x, m, m, 3, 0, 1000), 1);
            due(m + " against a LOAD", toldBends(x, m, 0, 0, 1000000, 1), 1);
        }
        says(16, "2 they do, but are not WITHIN");
        due("-1001", toldBends(x, -1001, 0, 0, 1001, 1), 2);
        due("1001", toldBends(x, 1001, 0, 0, -1001, 1), 2);
        due("-1000000", toldBends(x, -1000000, 0, 0, 1000000, 1), 2);
        due("1000000", toldBends(x, 1000000, 0, 0, -1000000, 1), 2);
        HingeFrames y = tip(7, 9, -100);
        due("of all four bytes", toldBends(y, 100000000, 0, 0, 1000000, 1), 2);
        due("of all four bytes, below 0", toldBends(y, -100000000, 0, 0, -1000000, 1), 2);
        due("7 of P 7", toldBends(y, 7, 0, 0, 7, 100), 0);
        due("8 of P 7", toldBends(y, 8, 0, 0, 8, 100), 2);
        due("-9 of Q 9", toldBends(y, -9, 0, 0, -9, 100), 0);
        due("-10 of Q 9", toldBends(y, -10, 0, 0, -10, 100), 2);
        HingeFrames weak = tip(0, 0, 1);
        due("0 of 0", toldBends(weak, 0, 0, 0, 0, 1), 0);
        due("1 of 0", toldBends(weak, 1, 0, 0, -1, 1), 2);
        due("-1 of 0", toldBends(weak, -1, 0, 0, 1, 1), 2);
    }

    private static void bendsRefused() {
        says(16, "BENDS by the first numbers of the tape");
        HingeFrames x = beam();
        x.feed(10, 10, -10, -30, 1);
        x.feed(1, 1, 1, 1, 1);
        due("the rest does not count", x.bends(0, 20, 3), 0);
        HingeFrames none = new HingeFrames();
        due("no ENDS, no tape", none.bends(5, 1000000, 1000), 0);
        none.joint(0, 0, 0);
        none.load(0, 0, 1, 0);
        due("no ENDS, 0 times", none.bends(0, 0, 1), 0);
        due("no ENDS, a LOAD at a LOOSE JOINT", none.bends(0, 1, 1), 1);
        says(16, "(four bytes each, one for each END; empty then)");
        none.feed(1, 1, 1, 1, 1);
        due("no ENDS, some tape", none.bends(1, 1, 1), 0);
        due("empty then", none.count(2), 0);
        HingeFrames y = full();
        for (int i = 0; i < 10; i++) {
            y.feed(0, 0, 0, 0, 0);
        }
        due("14 ENDS of 200 bytes", y.bends(5, 0, 1), 0);
        due("empty then", y.count(2), 0);
        // END 10 and END 12 share the bend 1 at JOINT 5; what END 11 bears END 13 takes away
        y.feed(6, -5, 5, -4, 4);
        y.feed(-3, 3, -2, 2, -1);
        y.feed(9, 1, -8, -1, 0);
        due("60 bytes for 14 ENDS", y.bends(5, 1, 1), 0);
        says(16, "it has not so many");
        due("no bytes for 14 ENDS", y.bends(5, 1, 1), -1);
        y.feed(0, 0, 0, 0, 0);
        y.feed(0, 0, 0, 0, 0);
        due("40 bytes for 14 ENDS", y.bends(5, 0, 1), -1);
        due("the tape stays", y.count(2), 40);
        y.feed(0, 0, 0, 0, 0);
        due("60 bytes", y.bends(5, 0, 1), 0);
        x.bar(0, 1, 1, 1);
        x.feed(0, 0, 0, 0, 0);
        due("20 bytes for 6 ENDS", x.bends(0, 0, 1), -1);
        x.undo();
        due("20 bytes for 4 ENDS", x.bends(0, 0, 1), 0);
        due("no bytes for 2 ENDS", tip(1, 1, 1).bends(0, 0, 1), -1);
        says(16, "NONE: no such ones (n -1000000 to 1000000)");
        HingeFrames z = tip(5, 5, 1);
        z.feed(-3, 0, 0, 0, 0);
        for (int n : beyond(0, 5)) {
            due("bends(" + n + ", 3, 1)", z.bends(n, 3, 1), -1);
        }
        for (int n : beyond(-1000000, 1000000)) {
            due("bends(0, " + n + ", 1)", z.bends(0, n, 1), -1);
        }
        for (int n : beyond(1, 1000)) {
            due("bends(0, 3, " + n + ")", z.bends(0, 3, n), -1);
        }
        due("bends(0, -3, -1)", z.bends(0, -3, -1), -1);
        says(16, "(the tape stays).");
        due("count(2)", z.count(2), 20);
        due("bends(0, 3, 1)", z.bends(0, 3, 1), 0);
    }

    private static int toldTurns(HingeFrames x, int t0, int t1, int c) {
        x.feed(t0, t1, MAX, MIN, -1);
        int answer = x.turning(c);
        due("the tape is empty then", x.count(2), 0);
        return answer;
    }

    private static void turning() {
        says(17, "0 they CAN BE and have WORK above 0 of CASE c");
        HingeFrames x = tip(3, 4, 1);
        x.load(5, 1, 0, -100);
        due("-1: WORK 1", toldTurns(x, -1, 0, 0), 0);
        due("-10000", toldTurns(x, -10000, 10000, 0), 0);
        due("-10000, -10000", toldTurns(x, -10000, -10000, 0), 0);
        due("1 in CASE 5", toldTurns(x, 1, 0, 5), 0);
        due("10000 in CASE 5", toldTurns(x, 10000, -10000, 5), 0);
        says(17, "1 they can't be");
        int[] far = {10001, -10001, MIN, MAX, 1 << 16, 1 << 24, -1 << 16, 65536 - 1};
        for (int t : far) {
            due(t + " at END 0", toldTurns(x, t, 0, 0), 1);
            due(t + " at END 1", toldTurns(x, -1, t, 0), 1);
            due(t + " in CASE 5", toldTurns(x, t, 0, 5), 1);
        }
        HingeFrames y = beam();
        y.feed(2, 3, 0, -2, 0);
        due("a beam's that do not go together", y.turning(0), 1);
        y.feed(2, 3, 1, -1, 0);
        due("a beam's that do not go together", y.turning(0), 1);
        y.feed(1, 0, 0, 0, 0);
        due("one alone", y.turning(0), 1);
        y.feed(-1, 0, 0, 0, 0);
        due("one alone, in a CASE without LOADS", y.turning(1), 1);
        y.pin(1, true);
        y.feed(2, 3, 0, -1, 0);
        due("not 0 where it is PINNED", y.turning(0), 1);
        y.feed(2, 0, 0, -1, 0);
        due("0 where it is PINNED", y.turning(0), 0);
        says(17, "2 they can, but have none above 0");
        due("0, 0", toldTurns(x, 0, 0, 0), 2);
        due("WORK 0", toldTurns(x, 0, 5, 0), 2);
        due("WORK -1", toldTurns(x, 1, 0, 0), 2);
        due("WORK -10000", toldTurns(x, 10000, 10000, 0), 2);
        due("WORK -100 in CASE 5", toldTurns(x, -1, 0, 5), 2);
        due("no LOADS", toldTurns(x, -1, 0, 4), 2);
        says(17, "(or LOOSE MOVES have WORK of it)");
        HingeFrames z = tipAndLoose();
        z.load(1, 1, 0, 1);
        due("they CAN BE and have WORK, but LOOSE MOVES, too", toldTurns(z, -1, 0, 1), 2);
        due("they CAN BE and have none", toldTurns(z, 0, 0, 1), 2);
        due("BOUND is none", z.bound(0), -1);
        due("too far ones can't be", toldTurns(z, -10001, 0, 1), 1);
        due("in a CASE of which LOOSE MOVES have none", toldTurns(z, -1, 0, 0), 0);
        z.pin(1, true);
        due("not 0 where it is PINNED: they can't be", toldTurns(z, -1, 1, 1), 1);
        HingeFrames apart = beam();
        apart.joint(6, 6, 0);
        apart.load(0, 3, 1, 1);
        apart.feed(2, 3, 0, -2, 0);
        due("they can't be, and LOOSE MOVES have WORK", apart.turning(0), 1);
        apart.feed(2, 3, 0, -1, 0);
        due("they can, and LOOSE MOVES have WORK", apart.turning(0), 2);
    }

    private static void turningRefused() {
        says(17, "TURNS by the first numbers of the tape likewise");
        HingeFrames x = beam();
        x.feed(2, 3, 0, -1, MAX);
        x.feed(MIN, 1, 1, 1, 1);
        due("the rest does not count", x.turning(0), 0);
        due("empty then", x.count(2), 0);
        HingeFrames none = new HingeFrames();
        due("no ENDS, no tape", none.turning(0), 2);
        none.feed(5, 5, 5, 5, 5);
        due("no ENDS, some tape", none.turning(5), 2);
        due("empty then", none.count(2), 0);
        HingeFrames y = full();
        for (int i = 0; i < 10; i++) {
            y.feed(i == 0 ? 10000 : 0, 0, 0, 0, 0);
        }
        due("14 ENDS of 200 bytes", y.turning(5), 0);
        due("empty then", y.count(2), 0);
        y.feed(0, 0, 0, 0, 0);
        y.feed(0, 0, 0, 0, 0);
        y.feed(7, 0, 7, 0, 0);
        due("END 10 with END 12", y.turning(5), 0);
        y.feed(0, 0, 0, 0, 0);
        y.feed(0, 0, 0, 0, 0);
        y.feed(7, 0, 6, 0, 0);
        due("END 10 with not so much of END 12", y.turning(5), 1);
        HingeFrames undone = beam();
        undone.load(1, 1, 1, 1);
        undone.undo();
        undone.feed(2, 3, 0, -1, 0);
        due("no act", undone.turning(0), 0);
        due("count(3)", undone.count(3), 6);
        due("REDO is left", undone.redo(), 0);
        says(17, "BOUND is kept.");
        fraction("BOUND", y.bound(0), y.bound(1), 24, 1);
        says(17, "NONE: no such CASE");
        HingeFrames z = tip(3, 4, 1);
        z.feed(-1, 0, 0, 0, 0);
        for (int n : beyond(0, 5)) {
            due("turning(" + n + ")", z.turning(n), -1);
        }
        says(17, "(the tape stays).");
        due("count(2)", z.count(2), 20);
        due("turning(0)", z.turning(0), 0);
        says(17, "it has not so many");
        due("no bytes", z.turning(0), -1);
        due("BOUND stays", z.bound(0), 4);
        y.feed(10000, 0, 0, 0, 0);
        y.feed(0, 0, 0, 0, 0);
        due("40 bytes for 14 ENDS", y.turning(5), -1);
        due("the tape stays", y.count(2), 40);
        y.feed(0, 0, 0, 0, 0);
        due("60 bytes for 14 ENDS", y.turning(5), 0);
        x.bar(0, 1, 1, 1);
        x.feed(2, 3, 0, -1, 2);
        due("20 bytes for 6 ENDS", x.turning(0), -1);
        x.undo();
        due("20 bytes for 4 ENDS", x.turning(0), 0);
    }

    private static void bound() {
        says(18, "NONE: there is none");
        HingeFrames x = tip(3, 4, 1);
        due("before all", x.bound(0), -1);
        due("before all", x.bound(1), -1);
        due("before all", new HingeFrames().bound(0), -1);
        toldTurns(x, 10001, 0, 0);
        due("behind 1", x.bound(0), -1);
        toldTurns(x, 1, 0, 0);
        due("behind 2", x.bound(1), -1);
        x.turning(0);
        due("behind a refused one", x.bound(0), -1);
        says(18, "what 0 above, 1 below the line");
        x.load(0, 1, 0, 7);
        toldTurns(x, -10000, 10000, 0);
        fraction("3 + 4 through 7", x.bound(0), x.bound(1), 1, 1);
        toldTurns(x, -3, 0, 0);
        fraction("12 through 21", x.bound(0), x.bound(1), 4, 7);
        says(18, "without a common divisor");
        x.load(0, 1, 0, 100);
        toldTurns(x, -10000, 0, 0);
        fraction("40000 through 1000000", x.bound(0), x.bound(1), 1, 25);
        HingeFrames weak = tip(0, 0, 100);
        toldTurns(weak, -10000, 10000, 0);
        fraction("0 through 1000000", weak.bound(0), weak.bound(1), 0, 1);
        HingeFrames strong = tip(1000, 1000, 1);
        toldTurns(strong, -1, 10000, 0);
        fraction("1000 times 10001 through 1", strong.bound(0), strong.bound(1), 10001000, 1);
        says(18, "no such what.");
        for (int n : beyond(0, 1)) {
            due("bound(" + n + ")", x.bound(n), -1);
            due("bound(" + n + ") where there is none", new HingeFrames().bound(n), -1);
        }
    }

    private static void boundStays() {
        says(18, "BOUND of the latest turning() that told 0");
        HingeFrames x = tip(3, 4, 1);
        toldTurns(x, -1, 0, 0);
        fraction("the first", x.bound(0), x.bound(1), 4, 1);
        toldTurns(x, -2, 1, 0);
        fraction("the latest", x.bound(0), x.bound(1), 11, 2);
        toldTurns(x, 0, 10001, 0);
        fraction("behind 1", x.bound(0), x.bound(1), 11, 2);
        toldTurns(x, 1, 1, 0);
        fraction("behind 2", x.bound(0), x.bound(1), 11, 2);
        x.turning(0);
        x.feed(-1, 0, 0, 0, 0);
        x.turning(6);
        fraction("behind refused ones", x.bound(0), x.bound(1), 11, 2);
        x.bends(0, 1, 1);
        fraction("behind BENDS", x.bound(0), x.bound(1), 11, 2);
        x.strength(0, 1000, 1000);
        x.load(0, 1, 0, -50);
        x.pin(0, true);
        x.greatest(0, 0);
        x.worth(0, 0, 0);
        x.out(0, 0, 0);
        x.rolls(0, 1, 3);
        fraction("behind acts and questions", x.bound(0), x.bound(1), 11, 2);
        for (int i = 0; i < 7; i++) {
            x.undo();
        }
        due("all is undone", x.count(0), 0);
        fraction("behind UNDO of all", x.bound(0), x.bound(1), 11, 2);
        x.redo();
        fraction("behind REDO", x.bound(0), x.bound(1), 11, 2);
        for (int i = 0; i < 6; i++) {
            x.redo();
        }
        x.pin(0, false);
        toldTurns(x, 1, 0, 0);
        fraction("another one", x.bound(0), x.bound(1), 20, 1);
    }

    private static void rolls() {
        says(19, "ROLLING of a LOAD over a set of JOINTS: the JOINT");
        HingeFrames x = full();
        due("over all seven", x.rolls(0, -1, 127), 6);
        due("over the last one alone", x.rolls(0, 100, 64), 6);
        due("-100", x.rolls(0, -100, 64), 6);
        due("over all but the last", x.rolls(100, 1, 63), 5);
        due("over two of them", x.rolls(-100, 1, 6), 2);
        due("the LOADS stay", x.place(6, 21), -1);
        due("no act", x.count(3), 15);
        says(19, "-2: nowhere");
        due("where all is HELD", x.rolls(100, -100, 1), -2);
        due("along the BARS", x.rolls(100, 0, 127), -2);
        due("no LOAD", x.rolls(0, 0, 127), -2);
        says(19, "NONE: no such ones (x, y -100 to 100");
        for (int n : beyond(-100, 100)) {
            due("rolls(" + n + ", 0, 127)", x.rolls(n, 0, 127), -1);
            due("rolls(0, " + n + ", 127)", x.rolls(0, n, 127), -1);
        }
        says(19, "a set of JOINTS that are there");
        int[] sets = {128, 129, 255, 256, 1 << 30, MAX, MIN, -1, -128, MIN + 1};
        for (int set : sets) {
            due("rolls(0, -1, " + set + ")", x.rolls(0, -1, set), -1);
        }
        HingeFrames two = tip(1, 1, 1);
        due("over two of two", two.rolls(0, 1, 3), 1);
        due("over a third one of two", two.rolls(0, 1, 4), -1);
        due("over three of two", two.rolls(0, 1, 7), -1);
        due("over one of none", new HingeFrames().rolls(0, 1, 1), -1);
        due("over -1 of none", new HingeFrames().rolls(0, 1, -1), -1);
        says(19, "not empty).");
        due("over none", x.rolls(0, -1, 0), -1);
        due("over none of none", new HingeFrames().rolls(0, 0, 0), -1);
    }

    private static void out() {
        says(20, "OUT: THE GREATEST of CASE c without BAR b, what as greatest()");
        HingeFrames x = full();
        fraction("without the first BAR", x.out(5, 0, 0), x.out(5, 0, 1), 0, 1);
        fraction("without the last one", x.out(5, 6, 0), x.out(5, 6, 1), 2, 1);
        x.load(0, 6, 0, 9);
        fraction("the first CASE", x.out(0, 5, 0), x.out(0, 5, 1), 2, 9);
        due("the BARS stay", x.count(1), 7);
        fraction("THE GREATEST stays", x.greatest(5, 0), x.greatest(5, 1), 2, 1);
        fraction("of one BAR", tip(1, 1, 1).out(0, 0, 0), tip(1, 1, 1).out(0, 0, 1), 0, 1);
        says(20, "-2: none");
        for (int c = 1; c < 5; c++) {
            due("no LOADS, above", x.out(c, 0, 0), -2);
            due("no LOADS, below", x.out(c, 6, 1), -2);
        }
        HingeFrames held = tip(1, 1, 0);
        held.load(0, 0, 100, 100);
        due("a LOAD where all is HELD", held.out(0, 0, 0), -2);
        says(20, "NONE: no such ones.");
        for (int n : beyond(0, 5)) {
            due("out(" + n + ", 0, 0)", x.out(n, 0, 0), -1);
        }
        for (int n : beyond(0, 6)) {
            due("out(5, " + n + ", 0)", x.out(5, n, 0), -1);
        }
        for (int n : beyond(0, 1)) {
            due("out(5, 6, " + n + ")", x.out(5, 6, n), -1);
            due("out(1, 0, " + n + ") where there is none", x.out(1, 0, n), -1);
        }
        HingeFrames y = beam();
        due("a third BAR of two", y.out(0, 2, 0), -1);
        due("the second one of two", y.out(0, 1, 0), 5);
        due("without BARS", new HingeFrames().out(0, 0, 0), -1);
    }

    private static void list() {
        says(21, "The LIST by n strengths (1 to 6) of the tape");
        HingeFrames x = tip(1, 1, 100);
        x.feed(1000, 0, 0, 0, 0);
        due("one", x.list(1), true);
        due("count(5)", x.count(5), 1);
        due("it is 1000", x.metal(1, 0), 1000);
        x.feed(0, 1, 2, 3, 999);
        x.feed(1000, -1, -1, -1, -1);
        due("six", x.list(6), true);
        due("count(5)", x.count(5), 6);
        due("the fifth", x.metal(1, 0), 999);
        due("the first", x.metal(2, 0), 0);
        says(21, "(four bytes each; empty then): true");
        due("count(2)", x.count(2), 0);
        x.feed(256, 257, 512, 0, 0);
        due("by two bytes each", x.list(3), true);
        due("256", x.metal(2, 0), 256);
        for (int i = 0; i < 10; i++) {
            x.feed(5, 0, 0, 0, 0);
        }
        due("one of 200 bytes", x.list(1), true);
        due("empty then", x.count(2), 0);
        due("another LIST", x.count(5), 1);
        due("no act", x.count(3), 4);
        says(21, "false: no such n");
        HingeFrames y = tip(1, 1, 1);
        y.feed(3, 4, 5, 6, 7);
        y.feed(8, 9, 10, 11, 12);
        for (int n : beyond(1, 6)) {
            due("list(" + n + ")", y.list(n), false);
        }
        int[] wraps = {0x40000001, 0xC0000001, 0x40000000, 0x80000001, -6};
        for (int n : wraps) {
            due("list(" + n + ")", y.list(n), false);
        }
        due("no LIST", y.count(5), 0);
        says(21, "(the tape stays)");
        due("count(2)", y.count(2), 40);
        due("list(6) of it", y.list(6), true);
        due("count(5)", y.count(5), 6);
        due("by its first number", y.metal(2, 0), 3);
        says(21, "it has not so many");
        for (int n = 1; n <= 6; n++) {
            due("no bytes for " + n, y.list(n), false);
        }
        y.feed(1, 2, 3, 4, 5);
        due("20 bytes for 6", y.list(6), false);
        due("the tape stays", y.count(2), 20);
        due("the LIST stays", y.count(5), 6);
        due("the LIST stays", y.metal(2, 0), 3);
        due("20 bytes for 5", y.list(5), true);
        due("count(5)", y.count(5), 5);
        HingeFrames bad = tip(1, 1, 1);
        bad.feed(-1, -1, -1, -1, -1);
        due("20 bytes that are not so for 6", bad.list(6), false);
        due("the tape stays", bad.count(2), 20);
        due("20 bytes that are not so for 5", bad.list(5), false);
        due("empty then", bad.count(2), 0);
    }

    private static void listNotSo() {
        says(21, "they are not so");
        HingeFrames x = withList(tip(1, 1, 1), 40, 50, 60);
        int[][] notSo = {{-1}, {1001}, {MIN}, {MAX}, {1, 1}, {2, 1}, {0, 0}, {1000, 1000}, {999, 1001}, {-1, 0}, {1, 2, 3, 4, 5, 5},
            {1, 2, 3, 4, 5, 4}, {1, 2, 3, 4, 5, 1001}, {1, 2, 3, 3, 5, 6}, {5, 1, 2, 3, 4, 6}, {1, 3, 2}, {0x01000001, 0x01000002},
            {1, 65538}, {256, 255}};
        for (int[] strengths : notSo) {
            int[] w = new int[10];
            System.arraycopy(strengths, 0, w, 0, strengths.length);
            x.feed(w[0], w[1], w[2], w[3], w[4]);
            x.feed(w[5], w[6], w[7], w[8], w[9]);
            due("a LIST that is not so", x.list(strengths.length), false);
            due("empty then", x.count(2), 0);
        }
        says(21, "(the LIST stays).");
        due("count(5)", x.count(5), 3);
        due("the first", x.metal(2, 0), 40);
        x.load(0, 1, 0, 51);
        due("the last", x.metal(1, 0), 60);
        HingeFrames y = tip(1, 1, 1);
        y.feed(5, 5, 0, 0, 0);
        due("not so, and no LIST before", y.list(2), false);
        due("count(5)", y.count(5), 0);
        due("no LIST", y.metal(1, -1), -1);
        y.feed(5, 5, 0, 0, 0);
        due("what stands behind n does not count", y.list(1), true);
        due("count(5)", y.count(5), 1);
    }

    private static void metal() {
        says(22, "THE LEAST METAL for a set of CASES, what NONE its cost, 0 to 2 the strength of that GROUP");
        HingeFrames x = withList(full(), 0, 1, 5, 6, 7, 1000);
        // one GROUP of LENGTH 7: END 0 turns by 1 against WORK 6
        due("cost for CASE 5", x.metal(32, -1), 42);
        due("GROUP 0", x.metal(32, 0), 6);
        due("GROUP 1 without BARS", x.metal(32, 1), 0);
        due("GROUP 2 without BARS", x.metal(32, 2), 0);
        due("for all CASES", x.metal(63, -1), 42);
        due("for the first one", x.metal(1, -1), 0);
        due("for all but the last one", x.metal(31, 0), 0);
        x.group(0, 2);
        // BAR 0 by itself: 6; the others bear 5 at JOINT 1
        due("cost of two GROUPS", x.metal(63, -1), 36);
        due("GROUP 0", x.metal(63, 0), 5);
        due("GROUP 1", x.metal(63, 1), 0);
        due("GROUP 2", x.metal(63, 2), 6);
        says(22, "-2: there is none");
        HingeFrames y = withList(tip(1, 1, 100), 98, 99);
        due("cost", y.metal(1, -1), -2);
        for (int g = 0; g < 3; g++) {
            due("GROUP " + g, y.metal(1, g), -2);
        }
        due("another CASE", y.metal(62, -1), 98);
        due("both", y.metal(63, -1), -2);
        withList(y, 98, 100);
        due("with 100", y.metal(63, -1), 100);
        HingeFrames loose = withList(tipAndLoose(), 1000);
        due("LOOSE MOVES have WORK", loose.metal(2, -1), -2);
        due("of that CASE only", loose.metal(1, -1), 1000);
        says(22, "NONE: no such ones (a set of 1 to 63)");
        for (int n : beyond(1, 63)) {
            due("metal(" + n + ", -1)", y.metal(n, -1), -1);
            due("metal(" + n + ", 0)", y.metal(n, 0), -1);
        }
        for (int n : beyond(-1, 2)) {
            due("metal(1, " + n + ")", y.metal(1, n), -1);
            due("metal(2, " + n + ") of LOOSE MOVES", loose.metal(2, n), -1);
        }
        says(22, "no LIST.");
        due("metal(1, -1)", beam().metal(1, -1), -1);
        due("metal(63, 2)", beam().metal(63, 2), -1);
        due("LOOSE MOVES have WORK", tipAndLoose().metal(2, 0), -1);
        due("without JOINTS", new HingeFrames().metal(1, 0), -1);
        due("without JOINTS, with a LIST", withList(new HingeFrames(), 7).metal(63, -1), 0);
        due("without JOINTS, with a LIST", withList(new HingeFrames(), 7).metal(63, 2), 7);
    }

    private static void undo() {
        says(23, "UNDO: how many acts can be undone then");
        HingeFrames x = new HingeFrames();
        x.joint(0, 0, 7);
        due("the only one", x.undo(), 0);
        due("JOINTS", x.count(0), 0);
        says(23, "NONE: there is none.");
        due("behind it", x.undo(), -1);
        due("twice", x.undo(), -1);
        due("of a new object", new HingeFrames().undo(), -1);
        due("it can be done again", x.count(4), 1);
        HingeFrames y = new HingeFrames();
        y.joint(7, 0, 0);
        y.feed(1, 2, 3, 4, 5);
        y.list(5);
        y.sheet(1);
        due("refused ones, the tape and the LIST are no acts", y.undo(), -1);
        due("the LIST stays", y.count(5), 5);
        for (int acts = 58; acts <= 62; acts++) {
            undoAll(acts);
        }
        undoAll(121);
        undoAll(183);
    }

    /** So many acts, each with its own LOAD: the latest 60 of them go back one by one. */
    private static void undoAll(int acts) {
        says(23, "UNDO: how many acts can be undone then");
        HingeFrames x = new HingeFrames();
        x.joint(0, 0, 0);
        for (int i = 2; i <= acts; i++) {
            x.load(0, 0, i % 100, 0);
        }
        int kept = Math.min(acts, 60);
        due("count(3) of " + acts, x.count(3), kept);
        for (int i = 1; i <= kept; i++) {
            due("undo() of " + acts, x.undo(), kept - i);
            int left = acts - i;
            due("LOAD behind " + left, x.place(0, 10), left == 0 ? -1000 : left == 1 ? 0 : left % 100);
        }
        says(23, "NONE: there is none.");
        due("undo() of " + acts, x.undo(), -1);
        due("count(0)", x.count(0), acts > 60 ? 1 : 0);
        due("count(4)", x.count(4), kept);
    }

    private static void redo() {
        says(24, "NONE: there is none.");
        due("of a new object", new HingeFrames().redo(), -1);
        HingeFrames x = beam();
        due("before UNDO", x.redo(), -1);
        due("no harm", x.count(1), 2);
        says(24, "REDO: how many can be done again then");
        x.undo();
        x.undo();
        due("the BAR", x.redo(), 1);
        due("count(1)", x.count(1), 2);
        due("the LOAD", x.redo(), 0);
        due("place(1, 11)", x.place(1, 11), -3);
        due("count(3)", x.count(3), 6);
        due("no more", x.redo(), -1);
        HingeFrames y = new HingeFrames();
        y.joint(0, 0, 0);
        for (int i = 1; i <= 65; i++) {
            y.load(0, 0, i, 0);
        }
        for (int i = 0; i < 60; i++) {
            y.undo();
        }
        due("all 60", y.count(4), 60);
        for (int i = 59; i >= 0; i--) {
            due("redo()", y.redo(), i);
            due("LOAD", y.place(0, 10), 65 - i);
        }
        due("no more", y.redo(), -1);
        due("count(3)", y.count(3), 60);
        redoEnds();
    }

    /** Each kind of act ends what could be done again; what is no act does not. */
    private static void redoEnds() {
        says(24, "NONE: there is none.");
        for (int kind = 0; kind < 7; kind++) {
            HingeFrames x = beam();
            x.load(1, 1, 5, 5);
            x.load(1, 1, 6, 6);
            x.undo();
            x.undo();
            x.feed(0x00010101, 0, 0, 0, 0);
            boolean done = kind == 0 ? x.joint(5, 5, 0) == 3 : kind == 1 ? x.bar(0, 1, 1, 1) == 2 : kind == 2 ? x.pin(0, true)
                : kind == 3 ? x.strength(0, 10, 20) : kind == 4 ? x.load(0, 1, 0, -3) : kind == 5 ? x.group(0, 0) : x.sheet(1) == 3;
            due("an act of kind " + kind, done, true);
            due("count(4) behind kind " + kind, x.count(4), 0);
            due("redo() behind kind " + kind, x.redo(), -1);
            due("count(3) behind kind " + kind, x.count(3), 7);
        }
        says(24, "REDO: how many can be done again then");
        HingeFrames y = beam();
        y.undo();
        y.joint(7, 7, 7);
        y.bar(0, 0, 1, 1);
        y.pin(0, false);
        y.strength(7, 1, 1);
        y.load(6, 0, 1, 1);
        y.group(0, 3);
        y.sheet(0);
        y.feed(5, 6, 7, 8, 9);
        y.list(2);
        y.feed(0, 0, 0, 0, 0);
        y.sheet(1);
        y.greatest(0, 0);
        y.metal(1, 0);
        due("behind what is no act", y.redo(), 0);
        due("the LOAD", y.place(1, 11), -3);
    }

    private static void look() {
        says(25, "Of BAR b, what 0, 1 its JOINTS, 2 P, 3 Q, 4 its GROUP, 5 its LENGTH, 6, 7 whether its ENDS are PINNED (1, 0).");
        HingeFrames x = full();
        x.strength(6, 0, 1000);
        x.group(6, 2);
        x.pin(13, true);
        int[] last = {5, 6, 0, 1000, 2, 1, 0, 1};
        int[] first = {0, 1, 12, 12, 0, 1, 0, 0};
        for (int what = 0; what < 8; what++) {
            due("look(6, " + what + ")", x.look(6, what), last[what]);
            due("look(0, " + what + ")", x.look(0, what), first[what]);
        }
        x.pin(12, true);
        due("look(6, 6)", x.look(6, 6), 1);
        HingeFrames y = new HingeFrames();
        y.joint(0, 6, 0);
        y.joint(0, 0, 0);
        y.bar(1, 0, 1, 2);
        due("LENGTH 6", y.look(0, 5), 6);
        says(25, "NONE for others.");
        for (int n : beyond(0, 7)) {
            due("look(6, " + n + ")", x.look(6, n), -1);
        }
        for (int n : beyond(0, 6)) {
            due("look(" + n + ", 2)", x.look(n, 2), -1);
        }
        for (int n : beyond(0, 0)) {
            for (int what = 0; what < 8; what++) {
                due("look(" + n + ", " + what + ") of one BAR", y.look(n, what), -1);
            }
        }
        for (int what = 0; what < 8; what++) {
            due("without BARS", new HingeFrames().look(0, what), -1);
        }
    }

    private static void place() {
        says(26, "Of JOINT j, what 0 x, 1 y, 2 HELD");
        HingeFrames x = row(6);
        x.joint(6, 6, 5);
        int[] first = {0, 0, 7};
        int[] last = {6, 6, 5};
        for (int what = 0; what < 3; what++) {
            due("place(0, " + what + ")", x.place(0, what), first[what]);
            due("place(6, " + what + ")", x.place(6, what), last[what]);
        }
        says(26, "10 + 2 c, 11 + 2 c its LOAD in CASE c along x, y.");
        for (int c = 0; c < 6; c++) {
            x.load(c, 6, -100 + c, 100 - c);
        }
        for (int c = 0; c < 6; c++) {
            due("along x", x.place(6, 10 + 2 * c), -100 + c);
            due("along y", x.place(6, 11 + 2 * c), 100 - c);
            due("of JOINT 0", x.place(0, 10 + 2 * c), 0);
        }
        says(26, "-1000 for others.");
        for (int what = 3; what <= 9; what++) {
            due("place(6, " + what + ")", x.place(6, what), -1000);
        }
        for (int n : beyond(0, 21)) {
            due("place(6, " + n + ")", x.place(6, n), -1000);
        }
        for (int n : beyond(0, 6)) {
            due("place(" + n + ", 2)", x.place(n, 2), -1000);
            due("place(" + n + ", 21)", x.place(n, 21), -1000);
        }
        HingeFrames y = row(1);
        due("a second one of one", y.place(1, 0), -1000);
        y.undo();
        due("one that is undone", y.place(0, 2), -1000);
    }

    private static void count() {
        says(27, "0 JOINTS, 1 BARS, 2 bytes of the tape, 3 acts that can be undone, 4 done again, 5 strengths of the LIST.");
        HingeFrames x = withList(full(), 1, 2, 3, 4, 5, 6);
        for (int i = 0; i < 10; i++) {
            x.feed(i, i, i, i, i);
        }
        for (int i = 0; i < 60; i++) {
            x.load(0, 0, i, i);
        }
        int[] most = {7, 7, 200, 60, 0, 6};
        for (int what = 0; what < 6; what++) {
            due("count(" + what + ")", x.count(what), most[what]);
        }
        for (int i = 0; i < 60; i++) {
            x.undo();
        }
        due("count(3)", x.count(3), 0);
        due("count(4)", x.count(4), 60);
        HingeFrames y = new HingeFrames();
        for (int what = 0; what < 6; what++) {
            due("count(" + what + ") of a new object", y.count(what), 0);
        }
        says(27, "NONE for others.");
        for (int n : beyond(0, 5)) {
            due("count(" + n + ")", x.count(n), -1);
            due("count(" + n + ") of a new object", y.count(n), -1);
        }
    }
}
