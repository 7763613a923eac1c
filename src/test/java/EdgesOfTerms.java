/**
 * The document's terms, sentence by sentence: says() quotes them, and what follows it stands on
 * both sides of the boundary that the words name. Answers were worked out by hand.
 */
public final class EdgesOfTerms {
    private static final int MIN = Integer.MIN_VALUE;
    private static final int MAX = Integer.MAX_VALUE;
    private static final long NO_TURN = -1000000000000L;
    private static String words = "";
    private static int checks = 0;
    private static int wrong = 0;

    public static void main(String[] args) {
        jointsAndBars();
        ends();
        moves();
        leans();
        plainFalls();
        leastTurns();
        looseAndFree();
        cases();
        works();
        greatest();
        theFall();
        fewestEnds();
        greatFrame();
        workInParts();
        bends();
        numbersAtPins();
        withinAtEachEnd();
        turns();
        rolling();
        out();
        groupsAndList();
        metal();
        metalOfThreeGroups();
        sheets();
        undo();
        redo();
        asksBetweenUndoAndRedo();
        asksBehindUndoOfAll();
        ownMemory();
        manyCalls();
        System.out.println(checks + " checks, " + wrong + " wrong");
        if (wrong != 0) {
            System.exit(1);
        }
    }

    private static void says(String quote) {
        words = quote;
    }

    private static void due(String call, long got, long want) {
        checks++;
        if (got != want) {
            wrong++;
            System.out.println("\"" + words + "\": " + call + " answered " + got + ", due is " + want);
        }
    }

    private static void due(String call, boolean got, boolean want) {
        due(call, got ? 1 : 0, want ? 1 : 0);
    }

    private static void greatestDue(String what, HingeFrames x, int c, long n, long d) {
        due(what + " above", x.greatest(c, 0), n);
        due(what + " below", x.greatest(c, 1), d);
    }

    private static void fallDue(String what, HingeFrames x, int c, long... turns) {
        for (int e = 0; e < turns.length; e++) {
            due(what + ", END " + e, x.fall(c, e), turns[e]);
        }
    }

    /** Two JOINTS at (0, 0) and (length, 0), the first all HELD, and a BAR between them. */
    private static HingeFrames arm(int length, int p, int q) {
        HingeFrames x = new HingeFrames();
        x.joint(0, 0, 7);
        x.joint(length, 0, 0);
        x.bar(0, 1, p, q);
        return x;
    }

    /** A beam HELD at both ends, with a JOINT at that place of it, and a LOAD of 1 downwards there in CASE 0. */
    private static HingeFrames beam(int at, int length, int p, int q) {
        HingeFrames x = new HingeFrames();
        x.joint(0, 0, 7);
        x.joint(at, 0, 0);
        x.joint(length, 0, 7);
        x.bar(0, 1, p, q);
        x.bar(1, 2, p, q);
        x.load(0, 1, 0, -1);
        return x;
    }

    private static void jointsAndBars() {
        says("JOINTS 0 to 6 at whole places");
        HingeFrames x = new HingeFrames();
        for (int j = 0; j < 7; j++) {
            due("JOINT " + j, x.joint(j, 6 - j, j), j);
        }
        due("JOINT 7", x.joint(3, 0, 0), -1);
        due("place(6, 0)", x.place(6, 0), 6);
        due("place(7, 0)", x.place(7, 0), -1000);
        says("(x, y from 0 to 6;");
        for (int n = -1; n <= 7; n++) {
            boolean can = n >= 0 && n <= 6;
            due("joint(" + n + ", 0, 0)", new HingeFrames().joint(n, 0, 0), can ? 0 : -1);
            due("joint(6, " + n + ", 0)", new HingeFrames().joint(6, n, 0), can ? 0 : -1);
        }
        says("no two at one)");
        HingeFrames y = new HingeFrames();
        for (int n = 0; n < 7; n++) {
            due("in the column", y.joint(2, n, 0), n);
            due("the same place", y.joint(2, n, 1), -1);
        }
        says("HELD or not: bits 1 along x, 2 along y, 4 against turning.");
        for (int held = 0; held <= 7; held++) {
            HingeFrames z = new HingeFrames();
            z.joint(3, 3, held);
            z.load(0, 0, 1, 0);
            z.load(1, 0, 0, 1);
            due("LOOSE with " + held, z.free(1), 3 - Integer.bitCount(held));
            due("along x with " + held, z.greatest(0, 0), (held & 1) != 0 ? -2 : 0);
            due("along y with " + held, z.greatest(1, 0), (held & 2) != 0 ? -2 : 0);
            HingeFrames arm = new HingeFrames();
            arm.joint(0, 0, 7);
            arm.joint(1, 0, held);
            arm.bar(0, 1, 1, 1);
            int numbers = ((held & 2) == 0 ? 1 : 0) + ((held & 4) == 0 ? 1 : 0);
            due("TURNS with " + held, arm.free(2), numbers);
        }
        says("BARS 0 to 6 between two JOINTS of one row or one column");
        HingeFrames bars = new HingeFrames();
        bars.joint(0, 0, 0);
        bars.joint(0, 6, 0);
        bars.joint(6, 6, 0);
        bars.joint(6, 5, 0);
        due("a column", bars.bar(0, 1, 1, 1), 0);
        due("a row", bars.bar(1, 2, 1, 1), 1);
        due("across", bars.bar(0, 2, 1, 1), -1);
        due("nearly a row", bars.bar(1, 3, 1, 1), -1);
        due("one JOINT twice", bars.bar(2, 2, 1, 1), -1);
        says("several between the same are allowed).");
        for (int b = 2; b < 7; b++) {
            due("BAR " + b, b % 2 == 0 ? bars.bar(0, 1, 1, 1) : bars.bar(1, 0, 1, 1), b);
        }
        due("BAR 7", bars.bar(0, 1, 1, 1), -1);
        says("(LENGTH 1 to 6;");
        for (int length = 1; length <= 6; length++) {
            HingeFrames z = arm(length, 60, 60);
            z.joint(0, length, 0);
            z.bar(2, 0, 60, 60);
            due("along x", z.look(0, 5), length);
            due("up y", z.look(1, 5), length);
            z.load(0, 1, 0, 1);
            z.load(1, 2, 1, 0);
            greatestDue("along x, LENGTH " + length, z, 0, 60 / length, 1);
            greatestDue("up y, LENGTH " + length, z, 1, 60 / length, 1);
        }
    }

    private static void ends() {
        says("BAR b has two ENDS: 2 b at its first JOINT, 2 b + 1 at its second one.");
        HingeFrames x = arm(1, 4, 5);
        x.load(0, 1, 0, 1);
        fallDue("from the held JOINT", x, 0, -1, 0, NO_TURN);
        HingeFrames y = new HingeFrames();
        y.joint(0, 0, 7);
        y.joint(1, 0, 0);
        for (int b = 0; b < 7; b++) {
            y.bar(1, 0, 4, 5);
        }
        y.load(0, 1, 0, 1);
        due("seven BARS to the held JOINT", y.greatest(0, 0), 35);
        for (int b = 0; b < 7; b++) {
            due("first END of BAR " + b, y.fall(0, 2 * b), 0);
            due("second END of BAR " + b, y.fall(0, 2 * b + 1), -1);
        }
        due("END 14", y.fall(0, 14), NO_TURN);
        says("STRENGTH of a BAR: P and Q (0 to 1000): the greatest bend of its ENDS for a turn above 0, and for one below 0.");
        int[][] strengths = {{0, 1000}, {1000, 0}, {1000, 1000}, {0, 0}, {1, 999}};
        for (int[] s : strengths) {
            HingeFrames z = arm(1, s[0], s[1]);
            z.load(0, 1, 0, 1);
            z.load(1, 1, 0, -1);
            greatestDue("upwards: a turn below 0", z, 0, s[1], 1);
            greatestDue("downwards: a turn above 0", z, 1, s[0], 1);
        }
        due("1001 for P", arm(1, 0, 0).strength(0, 1001, 0), false);
        due("1001 for Q", arm(1, 0, 0).strength(0, 0, 1001), false);
        due("-1 for P", arm(1, 0, 0).strength(0, -1, 0), false);
        due("-1 for Q", arm(1, 0, 0).strength(0, 0, -1), false);
        says("An END may be PINNED (it bears no bend).");
        HingeFrames pinned = arm(1, 4, 5);
        pinned.load(0, 1, 0, 1);
        pinned.pin(1, true);
        greatestDue("at its tip", pinned, 0, 5, 1);
        pinned.pin(0, true);
        greatestDue("at both", pinned, 0, 0, 1);
        due("no FALL is told", pinned.fall(0, 0), NO_TURN);
        pinned.pin(1, false);
        greatestDue("at the held JOINT", pinned, 0, 0, 1);
        HingeFrames again = arm(1, 4, 5);
        again.pin(0, true);
        again.pin(1, true);
        for (int i = 0; i < 3; i++) {
            again.undo();
        }
        again.bar(0, 1, 6, 7);
        due("not at a BAR where another one was", again.look(0, 6) + again.look(0, 7), 0);
        due("TURNS of both its ENDS", again.free(2), 2);
        HingeFrames beam = beam(3, 6, 6, 6);
        greatestDue("of a beam none", beam, 0, 8, 1);
        beam.pin(0, true);
        greatestDue("of a beam one", beam, 0, 6, 1);
        beam.pin(3, true);
        greatestDue("of a beam both", beam, 0, 4, 1);
    }

    private static void moves() {
        says("MOVES: each JOINT goes by u along x and v along y, and turns by t (numbers; what is HELD is 0)");
        HingeFrames x = new HingeFrames();
        x.joint(0, 0, 0);
        due("all three of one JOINT", x.free(1), 3);
        for (int j = 1; j < 7; j++) {
            x.joint(j, j, 7);
        }
        due("none of those that are HELD", x.free(1), 3);
        says("so that BARS keep their LENGTHS: u is alike at both JOINTS of a BAR along x, v at both of one up y.");
        for (int held = 0; held < 8; held++) {
            HingeFrames along = new HingeFrames();
            along.joint(2, 2, held);
            along.joint(5, 2, 0);
            along.joint(6, 2, 0);
            along.bar(1, 2, 1, 1);
            along.bar(0, 1, 1, 1);
            along.load(0, 2, 1, 0);
            due("a LOAD along a row that is HELD by " + held, along.greatest(0, 0), (held & 1) != 0 ? -2 : 0);
            HingeFrames up = new HingeFrames();
            up.joint(2, 2, held);
            up.joint(2, 5, 0);
            up.joint(2, 6, 0);
            up.bar(2, 1, 1, 1);
            up.bar(1, 0, 1, 1);
            up.load(0, 2, 0, 1);
            due("a LOAD up a column that is HELD by " + held, up.greatest(0, 0), (held & 2) != 0 ? -2 : 0);
        }
        HingeFrames round = new HingeFrames();
        round.joint(0, 0, 3);
        round.joint(1, 0, 0);
        round.joint(1, 1, 0);
        round.joint(0, 1, 0);
        round.bar(0, 1, 1, 1);
        round.bar(1, 2, 1, 1);
        round.bar(2, 3, 1, 1);
        round.bar(3, 0, 1, 1);
        // u of JOINTS 2 and 3, v of JOINTS 1 and 2, and four turns; turning as a whole is LOOSE
        due("a ring: LOOSE", round.free(1), 1);
        due("a ring: TURNS", round.free(2), 5);
    }

    /** From (3, 3) a BAR of LENGTH 2 to each side, told from either JOINT: the end at (3, 3) turns alike. */
    private static void leans() {
        says("THE LEAN of a BAR: along x (its second JOINT's v less its first one's, through its LENGTH, if the second one's x is greater;");
        leanOf(5, 3, false, -1);
        says("else turned round);");
        leanOf(1, 3, false, 1);
        leanOf(5, 3, true, -1);
        leanOf(1, 3, true, 1);
        says("up y (its first JOINT's u less its second one's, through its LENGTH, if the second one's y is greater;");
        leanOf(3, 5, false, 1);
        says("else turned round).");
        leanOf(3, 1, false, -1);
        leanOf(3, 5, true, 1);
        leanOf(3, 1, true, -1);
        says("THE TURN of an END: t of its JOINT less THE LEAN of its BAR.");
        HingeFrames x = arm(1, 5, 5);
        x.load(0, 1, 0, -1);
        // v = -1: THE LEAN is -1; t = 0: 1, 1; t = -1: 1, 0; t = 4: 1, 5
        int[][] told = {{1, 1}, {1, 0}, {1, 5}, {1, -9999}};
        for (int[] t : told) {
            x.feed(t[0], t[1], 0, 0, 0);
            due("turns " + t[0] + ", " + t[1], x.turning(0), 0);
        }
        HingeFrames held = new HingeFrames();
        held.joint(0, 0, 7);
        held.joint(1, 0, 4);
        held.bar(0, 1, 5, 5);
        held.load(0, 1, 0, -1);
        held.feed(1, 0, 0, 0, 0);
        due("t is 0, so ENDS turn alike", held.turning(0), 1);
        held.feed(1, 1, 0, 0, 0);
        due("t is 0, so ENDS turn alike", held.turning(0), 0);
        fallDue("t is 0", held, 0, 1, 1);
    }

    private static void leanOf(int px, int py, boolean isTurned, int turn) {
        HingeFrames x = new HingeFrames();
        x.joint(3, 3, 7);
        x.joint(px, py, 0);
        x.bar(isTurned ? 1 : 0, isTurned ? 0 : 1, 2, 6);
        x.load(0, 1, py == 3 ? 0 : 1, py == 3 ? 1 : 0);
        String what = "to (" + px + ", " + py + ")" + (isTurned ? " turned round" : "");
        due(what, x.fall(0, isTurned ? 1 : 0), turn);
        due(what + ", the other END", x.fall(0, isTurned ? 0 : 1), 0);
        greatestDue(what, x, 0, turn > 0 ? 1 : 3, 1);
    }

    private static void plainFalls() {
        says("TURNS of all ENDS that are not PINNED by some MOVES: a FALL, if not all of them are 0.");
        HingeFrames loose = new HingeFrames();
        loose.joint(0, 0, 0);
        due("MOVES without TURNS", loose.falls(-1), 0);
        HingeFrames x = arm(1, 1, 1);
        due("two ENDS", x.falls(-1), 4);
        x.pin(0, true);
        due("one of them PINNED", x.falls(-1), 2);
        x.pin(1, true);
        due("both PINNED", x.falls(-1), 0);
        says("A PLAIN FALL: one for which there is no other one (but its multiples) that turns at no other ENDS than these.");
        HingeFrames beam = beam(2, 6, 5, 5);
        due("three of them", beam.falls(-1), 6);
        // 4, 4, -2, -2 turns at all ENDS and has the same fraction, but is not PLAIN
        fallDue("three ENDS", beam, 0, 2, 3, 0, -1);
        due("two that are PLAIN have the fraction", beam.only(0), 0);
        says("It is told in whole numbers without a common divisor;");
        for (int length = 1; length <= 6; length++) {
            HingeFrames arm = arm(length, 5, 5);
            arm.load(0, 1, 0, -1);
            fallDue("LENGTH " + length, arm, 0, 1, 0);
        }
        fallDue("LENGTHS 1 and 5", beam(1, 6, 1, 1), 0, 5, 6, 0, -1);
        fallDue("LENGTHS 3 and 3", beam(3, 6, 1, 1), 0, 1, 2, 0, -1);
        fallDue("LENGTHS 2 and 3", beam(2, 5, 1, 1), 0, 3, 5, 0, -2);
        says("of it and it turned round (both are PLAIN FALLS) each counts.");
        HingeFrames one = new HingeFrames();
        one.joint(0, 0, 7);
        one.joint(1, 0, 3);
        one.bar(0, 1, 1, 1);
        due("one and it turned round", one.falls(-1), 2);
        HingeFrames all = new HingeFrames();
        all.joint(0, 0, 3);
        all.joint(1, 0, 3);
        for (int b = 0; b < 7; b++) {
            all.bar(0, 1, 1, 1);
        }
        due("all first ENDS, all second ENDS", all.falls(-1), 4);
        HingeFrames apart = new HingeFrames();
        for (int j = 0; j < 7; j++) {
            apart.joint(j, 0, 3);
        }
        for (int b = 0; b < 6; b++) {
            apart.bar(b, b + 1, 1, 1);
        }
        // one for each JOINT: all ENDS there turn alike
        due("one for each of seven JOINTS", apart.falls(-1), 14);
    }

    /** Two BARS of all LENGTHS to one JOINT that goes up and down alone: v through each LENGTH, in least numbers. */
    private static void leastTurns() {
        says("It is told in whole numbers without a common divisor;");
        for (int one = 1; one <= 6; one++) {
            for (int two = 1; two <= 6; two++) {
                if (one == two) {
                    continue;
                }
                HingeFrames x = new HingeFrames();
                x.joint(6, 0, 5);
                x.joint(6 - one, 0, 7);
                x.joint(6 - two, 0, 7);
                x.bar(0, 1, 5, 5);
                x.bar(2, 0, 5, 5);
                x.load(0, 0, 0, 1);
                long g = commonDivisor(one, two);
                fallDue("LENGTHS " + one + " and " + two, x, 0, -two / g, -two / g, -one / g, -one / g);
                x.pin(3, true);
                fallDue("LENGTHS " + one + " and " + two + " with END 3 PINNED", x, 0, -two / g, -two / g, -one / g, 0);
            }
        }
        // JOINT 1 does not turn; v = -1 of it alone BEARS 2 + 2 + 8 + 8, all others bear more
        HingeFrames y = new HingeFrames();
        y.joint(0, 0, 7);
        y.joint(1, 0, 4);
        y.joint(2, 0, 0);
        y.bar(2, 0, 7, 4);
        y.bar(1, 2, 8, 2);
        y.bar(0, 1, 8, 5);
        y.load(0, 1, 0, -1);
        greatestDue("JOINT 1 goes down alone", y, 0, 20, 1);
        fallDue("JOINT 1 goes down alone", y, 0, 0, 0, -1, -1, 1, 1);
        due("ONLY", y.only(0), 1);
    }

    private static void looseAndFree() {
        says("LOOSE are MOVES, not all 0, with no TURN at an END that is not PINNED.");
        HingeFrames x = new HingeFrames();
        due("not all 0", x.free(1), 0);
        x.joint(0, 0, 7);
        due("all HELD", x.free(1), 0);
        x.joint(1, 0, 0);
        due("without BARS", x.free(1), 3);
        x.bar(0, 1, 1, 1);
        due("with a BAR", x.free(1), 0);
        x.pin(0, true);
        due("with an END PINNED", x.free(1), 1);
        x.load(0, 1, 0, 1);
        greatestDue("which has WORK", x, 0, 0, 1);
        x.pin(1, true);
        due("with both PINNED", x.free(1), 2);
        x.pin(0, false);
        due("with the other one PINNED", x.free(1), 1);
        greatestDue("which has none", x, 0, 1, 1);
        says("FREE: how many bends are free to choose: ENDS that are not PINNED, less the number of MOVES that must be told so that the TURNS of all MOVES are sums of them.");
        due("one END", x.free(0), 0);
        HingeFrames held = new HingeFrames();
        held.joint(0, 0, 7);
        held.joint(6, 0, 7);
        for (int b = 0; b < 7; b++) {
            due("with " + b + " BARS", held.free(0), 2 * b);
            held.bar(0, 1, 1, 1);
        }
        due("with 7 BARS", held.free(0), 14);
        for (int e = 0; e < 14; e++) {
            held.pin(e, true);
            due("with " + e + " and one PINNED", held.free(0), 13 - e);
        }
        HingeFrames beam = beam(3, 6, 1, 1);
        int[] free = {2, 1, 0, 0, 0};
        int[] loose = {0, 0, 0, 1, 2};
        int[] turns = {2, 2, 2, 1, 0};
        for (int e = 0; e <= 4; e++) {
            due("FREE with " + e + " PINNED", beam.free(0), free[e]);
            due("LOOSE with " + e + " PINNED", beam.free(1), loose[e]);
            due("TURNS with " + e + " PINNED", beam.free(2), turns[e]);
            beam.pin(e, true);
        }
    }

    private static void cases() {
        says("CASES 0 to 5: a LOAD at each JOINT");
        HingeFrames x = arm(1, 7, 7);
        for (int c = -1; c <= 6; c++) {
            due("load(" + c + ", ..)", x.load(c, 1, 0, c + 1), c >= 0 && c <= 5);
        }
        for (int c = 0; c <= 5; c++) {
            greatestDue("CASE " + c, x, c, 7, c + 1);
        }
        due("CASE 6", x.greatest(6, 0), -1);
        due("CASE -1", x.greatest(-1, 0), -1);
        says("(x and y, -100 to 100;");
        for (int n = 99; n <= 101; n++) {
            due("x " + n, x.load(0, 0, n, 0), n <= 100);
            due("x " + -n, x.load(0, 0, -n, 0), n <= 100);
            due("y " + n, x.load(0, 0, 0, n), n <= 100);
            due("y " + -n, x.load(0, 0, 0, -n), n <= 100);
        }
        due("the last that was allowed", x.place(0, 11), -100);
        says("0 at first).");
        HingeFrames y = new HingeFrames();
        for (int j = 0; j < 7; j++) {
            y.joint(j, 0, 0);
            for (int what = 10; what <= 21; what++) {
                due("place(" + j + ", " + what + ")", y.place(j, what), 0);
            }
        }
        y.load(5, 6, 9, 9);
        y.undo();
        y.undo();
        y.joint(6, 6, 0);
        due("of a JOINT where another one was", y.place(6, 20), 0);
    }

    private static void works() {
        says("WORK of a CASE by MOVES: of all JOINTS, u times the LOAD along x and v times that along y.");
        // legs of LENGTH 3 and a beam of LENGTH 2 on them: a sway by 3 turns all four ENDS of the legs by 1
        HingeFrames x = new HingeFrames();
        x.joint(0, 0, 7);
        x.joint(0, 3, 0);
        x.joint(2, 3, 0);
        x.joint(2, 0, 7);
        x.bar(0, 1, 9, 9);
        x.bar(1, 2, 900, 900);
        x.bar(2, 3, 9, 9);
        x.load(0, 1, 1, 0);
        greatestDue("1 along x", x, 0, 12, 1);
        x.load(0, 2, 2, 0);
        greatestDue("1 and 2 along x", x, 0, 4, 1);
        x.load(0, 1, -2, 0);
        due("-2 and 2 along x", x.greatest(0, 0), -2);
        x.load(0, 1, 1, 100);
        greatestDue("a LOAD along a leg has none", x, 0, 4, 1);
        x.load(0, 0, 100, 100);
        greatestDue("a LOAD where all is HELD has none", x, 0, 4, 1);
        says("It is WORK of a FALL, if no LOOSE MOVES have WORK of that CASE;");
        x.joint(5, 5, 0);
        greatestDue("LOOSE MOVES without WORK", x, 0, 4, 1);
        due("falls(0)", x.falls(0) > 0, true);
        says("if some have, THE GREATEST is 0.");
        x.load(0, 4, 0, 1);
        greatestDue("LOOSE MOVES with WORK", x, 0, 0, 1);
        due("falls(0)", x.falls(0), -1);
        x.load(1, 1, 1, 0);
        greatestDue("another CASE", x, 1, 12, 1);
        // two that are LOOSE by the same MOVES: the WORK of both together counts
        HingeFrames both = new HingeFrames();
        both.joint(0, 0, 2);
        both.joint(4, 0, 2);
        both.bar(0, 1, 1, 1);
        both.load(0, 0, 7, 0);
        greatestDue("7 along x", both, 0, 0, 1);
        both.load(0, 1, -7, 0);
        due("7 and -7 along x", both.greatest(0, 0), -2);
        both.load(0, 1, -6, 0);
        greatestDue("7 and -6 along x", both, 0, 0, 1);
        // JOINT 1 does not turn, so both ENDS turn alike: one PLAIN FALL and it turned round, and both have WORK of a LOAD
        HingeFrames single = new HingeFrames();
        single.joint(0, 0, 7);
        single.joint(1, 0, 4);
        single.bar(0, 1, 3, 3);
        single.load(0, 1, 0, 5);
        due("all PLAIN FALLS have WORK, one above 0", single.falls(0), 1);
        greatestDue("both ENDS bear", single, 0, 6, 5);
        single.feed(1, 2, 3, 4, 0);
        single.list(4);
        due("metal: 2 s against 5", single.metal(1, 0), 3);
        says("BEARS of a FALL: of all ENDS that are not PINNED THE TURN times P, or, below 0, without its sign times Q, together.");
        HingeFrames y = beam(2, 6, 0, 0);
        // (2, 3, 0, -1): 2 P, 3 P of BAR 0, 1 Q of BAR 1, WORK 4; (2, 0, -3, -1): 2 P of BAR 0, 4 Q of BAR 1
        y.strength(0, 1, 0);
        y.strength(1, 0, 100);
        greatestDue("5 times 1 and 100", y, 0, 105, 4);
        y.strength(0, 100, 0);
        y.strength(1, 0, 1);
        greatestDue("2 times 100 and 4 times 1", y, 0, 51, 1);
        y.strength(0, 0, 1000);
        y.strength(1, 1000, 0);
        greatestDue("the other strengths do not count", y, 0, 0, 1);
        y.load(0, 1, 0, 1);
        greatestDue("the other way they do", y, 0, 1500, 1);
    }

    private static void greatest() {
        says("THE GREATEST of a CASE: of all FALLS with WORK above 0 the least BEARS through WORK: a fraction without a common divisor;");
        HingeFrames x = arm(6, 1000, 999);
        int[][] due = {{1, 333, 2}, {2, 333, 4}, {3, 111, 2}, {100, 333, 200}, {-1, 500, 3}, {-100, 5, 3}};
        for (int[] d : due) {
            x.load(0, 1, 0, d[0]);
            greatestDue("a LOAD of " + d[0], x, 0, d[1], d[2]);
        }
        x.strength(0, 0, 0);
        greatestDue("no strength", x, 0, 0, 1);
        due("but a FALL", x.fall(0, 0), 1);
        says("none, if there is no such FALL (no load of that kind brings it down).");
        x.load(0, 1, 100, 0);
        due("along the BAR", x.greatest(0, 0), -2);
        due("along the BAR", x.greatest(0, 1), -2);
        x.load(0, 1, 0, 0);
        due("no LOAD", x.greatest(0, 0), -2);
        due("no FALL", x.fall(0, 0), NO_TURN);
        says("ONLY: if one PLAIN FALL alone has that fraction.");
        HingeFrames y = beam(3, 6, 5, 5);
        due("two have it", y.only(0), 0);
        y.strength(0, 5, 6);
        due("Q of BAR 0 does not matter", y.only(0), 0);
        y.strength(0, 6, 5);
        due("P of BAR 0 does", y.only(0), 1);
        fallDue("that with less of BAR 0", y, 0, 1, 0, -2, -1);
        y.strength(0, 4, 5);
        due("1 less", y.only(0), 1);
        fallDue("that with more of BAR 0", y, 0, 1, 2, 0, -1);
        says("(THE GREATEST 0 by LOOSE MOVES: no FALL is told.)");
        y.joint(6, 6, 0);
        y.load(0, 3, 1, 0);
        greatestDue("by LOOSE MOVES", y, 0, 0, 1);
        for (int e = 0; e < 4; e++) {
            due("END " + e, y.fall(0, e), NO_TURN);
        }
        due("only(0)", y.only(0), -1);
        says("WORTH of a BAR in a CASE: THE GREATEST, if P and Q of it were each more by 1.");
        HingeFrames z = arm(1, 0, 1000);
        z.load(0, 1, 0, -1);
        z.load(1, 1, 0, 1);
        due("P 0", z.worth(0, 0, 0), 1);
        due("Q 1000", z.worth(1, 0, 0), 1001);
        due("no LOADS", z.worth(2, 0, 0), -2);
        due("P stays", z.look(0, 2), 0);
        due("Q stays", z.look(0, 3), 1000);
        greatestDue("THE GREATEST stays", z, 0, 0, 1);
    }

    private static void theFall() {
        says("THE FALL: the PLAIN one by which it is so;");
        HingeFrames x = beam(2, 6, 5, 7);
        // (2, 3, 0, -1) BEARS 32, (2, 0, -3, -1) 38
        fallDue("the lesser one", x, 0, 2, 3, 0, -1);
        x.strength(0, 8, 5);
        // now 47 and 44
        fallDue("the other one", x, 0, 2, 0, -3, -1);
        says("of like ones that with fewest ENDS that turn;");
        // ENDS 0 and 1 turn alike, as JOINT 1 does not turn; END 2 can turn alone; none bears
        HingeFrames few = new HingeFrames();
        few.joint(0, 0, 7);
        few.joint(1, 0, 4);
        few.joint(3, 0, 7);
        few.joint(4, 0, 0);
        few.bar(0, 1, 0, 0);
        few.bar(2, 3, 0, 0);
        few.load(0, 1, 0, 1);
        fallDue("two ENDS, where one alone has no WORK", few, 0, -1, -1, 0, 0);
        few.load(0, 3, 0, 1);
        fallDue("one END", few, 0, 0, 0, -1, 0);
        due("not ONLY", few.only(0), 0);
        says("of like ones that of the least set of ENDS, as bits;");
        fallDue("of one row", beam(3, 6, 5, 5), 0, 1, 2, 0, -1);
        leastSetAsBits();
        says("of like ones the least row of TURNS.");
        // of one set there are but one and it turned round, and of these one alone has WORK above 0
        HingeFrames one = arm(1, 3, 3);
        one.load(0, 1, 0, 1);
        one.load(1, 1, 0, -1);
        fallDue("upwards", one, 0, -1, 0);
        fallDue("downwards", one, 1, 1, 0);
        due("ONLY", one.only(0), 1);
    }

    /** ENDS 0 and 7 of one beam (129 as bits) against ENDS 3 and 4 of another one (24): all like, but for these. */
    private static void leastSetAsBits() {
        HingeFrames x = new HingeFrames();
        x.joint(0, 0, 7);
        x.joint(1, 0, 0);
        x.joint(2, 0, 7);
        x.joint(0, 2, 7);
        x.joint(1, 2, 0);
        x.joint(2, 2, 7);
        x.bar(0, 1, 5, 5);
        x.bar(4, 3, 5, 5);
        x.bar(5, 4, 5, 5);
        x.bar(1, 2, 5, 5);
        x.pin(1, true);
        x.pin(2, true);
        x.pin(5, true);
        x.pin(6, true);
        x.load(0, 1, 0, -1);
        x.load(0, 4, 0, -1);
        fallDue("3 and 4 before 0 and 7", x, 0, 0, 0, 0, 1, -1, 0, 0, 0);
        due("not ONLY", x.only(0), 0);
        x.strength(1, 6, 5);
        fallDue("0 and 7 bear less", x, 0, 1, 0, 0, 0, 0, 0, 0, -1);
        due("ONLY", x.only(0), 1);
    }

    /**
     * One BAR to a JOINT that does not turn (both its ENDS turn alike), one to a JOINT that does (its
     * held END turns alone), in either order and told from either JOINT: the END that turns alone is THE FALL.
     */
    private static void fewestEnds() {
        says("of like ones that with fewest ENDS that turn;");
        for (int way = 0; way < 8; way++) {
            HingeFrames x = new HingeFrames();
            x.joint(0, 0, 7);
            x.joint(1, 0, 4);
            x.joint(3, 0, 7);
            x.joint(4, 0, 0);
            int alone = 0;
            for (int b = 0; b < 2; b++) {
                int near = (b == 0) == ((way & 1) == 0) ? 0 : 2;
                boolean isTurned = (way >> 1 + b & 1) != 0;
                x.bar(isTurned ? near + 1 : near, isTurned ? near : near + 1, 0, 0);
                alone = near == 2 ? 2 * b + (isTurned ? 1 : 0) : alone;
            }
            x.load(0, 1, 0, 1);
            x.load(0, 3, 0, 1);
            for (int e = 0; e < 4; e++) {
                due("END " + e + " of frame " + way, x.fall(0, e), e == alone ? -1 : 0);
            }
            due("not ONLY", x.only(0), 0);
        }
        // both ENDS of BAR 0 alike, three ENDS of two BARS side by side: the fewer ones come first or last
        for (int way = 0; way < 2; way++) {
            HingeFrames x = new HingeFrames();
            x.joint(0, 0, 7);
            x.joint(1, 0, 4);
            x.joint(3, 0, 7);
            x.joint(4, 0, 4);
            for (int b = 0; b < 3; b++) {
                boolean isSingle = b == (way == 0 ? 0 : 2);
                x.bar(isSingle ? 0 : 2, isSingle ? 1 : 3, 0, 0);
            }
            x.pin(way == 0 ? 5 : 0, true);
            x.load(0, 1, 0, 1);
            x.load(0, 3, 0, 1);
            for (int e = 0; e < 6; e++) {
                due("two ENDS before three, END " + e, x.fall(0, e), e / 2 == (way == 0 ? 0 : 2) ? -1 : 0);
            }
        }
    }

    /** Seven BARS with 594 PLAIN FALLS and those turned round: THE FALL of each LOAD has no common divisor. */
    private static void greatFrame() {
        says("It is told in whole numbers without a common divisor;");
        int[][] joints = {{0, 1, 4}, {3, 1, 7}, {0, 5, 0}, {3, 6, 2}, {5, 1, 0}, {3, 5, 2}, {5, 6, 0}};
        int[][] bars = {{3, 6}, {3, 1}, {0, 2}, {2, 5}, {5, 3}, {4, 6}, {0, 4}};
        HingeFrames x = new HingeFrames();
        for (int[] j : joints) {
            x.joint(j[0], j[1], j[2]);
        }
        for (int[] b : bars) {
            x.bar(b[0], b[1], 10 + 7 * b[0], 12 + 5 * b[1]);
        }
        due("all PLAIN FALLS", x.falls(-1), 1188);
        for (int i = 0; i < 24; i++) {
            x.load(0, i % 7, 10 - i % 5, i - 8);
            long divisor = 0;
            for (int e = 0; e < 14; e++) {
                divisor = commonDivisor(divisor, x.fall(0, e));
            }
            due("the divisor of THE FALL of LOAD " + i, divisor, 1);
            due("the divisor of THE GREATEST of LOAD " + i, commonDivisor(x.greatest(0, 0), x.greatest(0, 1)), 1);
        }
    }

    private static long commonDivisor(long a, long b) {
        return b == 0 ? Math.abs(a) : commonDivisor(b, a % b);
    }

    /**
     * LENGTHS 2 and 3 with the outer ENDS PINNED: END 1 or END 2 turns alone by 1 if v is -6 / 5 or
     * 6 / 5 at JOINT 1, so that the WORK of whole TURNS is no whole number.
     */
    private static void workInParts() {
        says("THE GREATEST of a CASE: of all FALLS with WORK above 0 the least BEARS through WORK: a fraction without a common divisor;");
        HingeFrames x = beam(2, 5, 7, 9);
        x.pin(0, true);
        x.pin(3, true);
        greatestDue("7 through 6 / 5", x, 0, 35, 6);
        fallDue("END 1", x, 0, 0, 1, 0, 0);
        int[][] loads = {{-5, 7, 6}, {-7, 5, 6}, {-35, 1, 6}, {-100, 7, 120}, {1, 35, 6}, {10, 7, 12}};
        for (int[] l : loads) {
            x.load(0, 1, 0, l[0]);
            greatestDue("a LOAD of " + l[0], x, 0, l[1], l[2]);
        }
        // END 1 by -1 bears 9, END 2 by 1 bears 7
        fallDue("upwards END 2", x, 0, 0, 0, 1, 0);
        x.feed(0, -1, 0, 0, 0);
        due("upwards END 1", x.turning(0), 0);
        due("9 through 12, above", x.bound(0), 3);
        due("9 through 12, below", x.bound(1), 4);
        x.feed(0, -10000, 10000, 0, 0);
        due("both", x.turning(0), 0);
        due("16 through 24, above", x.bound(0), 2);
        due("16 through 24, below", x.bound(1), 3);
        x.load(0, 1, 0, -1);
        x.feed(0, 6, -6, 0, 0);
        due("bends of 6", x.bends(0, 5, 1), 0);
        x.feed(0, 7, -7, 0, 0);
        due("bends of 7", x.bends(0, 35, 6), 0);
        x.feed(0, 8, -8, 0, 0);
        due("bends of 8", x.bends(0, 20, 3), 2);
        due("one more of BAR 0", x.worth(0, 0, 0), 20);
        due("one more of BAR 0", x.worth(0, 0, 1), 3);
        x.feed(5, 6, 7, 8, 9);
        x.list(5);
        x.load(0, 1, 0, -5);
        due("metal: 5 s / 6 against 5", x.metal(1, 0), 6);
        x.load(0, 1, 0, -6);
        due("metal: 5 s / 6 against 6", x.metal(1, 0), 8);
    }

    /** A whole row of seven BARS, each of its ENDS PINNED in its turn: what is told there must be 0. */
    private static void numbersAtPins() {
        for (int e = 0; e < 14; e++) {
            HingeFrames x = new HingeFrames();
            for (int j = 0; j < 7; j++) {
                x.joint(j, 0, j == 0 ? 7 : 0);
            }
            for (int b = 0; b < 7; b++) {
                x.bar(b < 6 ? b : 5, b < 6 ? b + 1 : 6, 9, 9);
            }
            x.pin(e, true);
            int[] told = {1, -1, MIN, 256, 65536, 1 << 24};
            for (int t : told) {
                says("at those that are PINNED 0, else they don't)");
                feedOne(x, e, t);
                due(t + " at END " + e, x.bends(0, 0, 1), 1);
                says("PINNED: 0)");
                feedOne(x, e, t);
                due(t + " at END " + e, x.turning(0), 1);
            }
            feedOne(x, e, 0);
            due("0 at END " + e, x.bends(0, 0, 1), 0);
            feedOne(x, e, 0);
            due("0 at END " + e, x.turning(0), 2);
        }
    }

    /** 15 numbers, all 0 but for that of one END. */
    private static void feedOne(HingeFrames x, int e, int t) {
        for (int i = 0; i < 15; i += 5) {
            x.feed(e == i ? t : 0, e == i + 1 ? t : 0, e == i + 2 ? t : 0, e == i + 3 ? t : 0, e == i + 4 ? t : 0);
        }
    }

    /** Where all is HELD any bends BALANCE no LOADS; each BAR has a strength of its own. */
    private static void withinAtEachEnd() {
        says("They are WITHIN strength, if none is above P, nor below Q with its sign turned.");
        for (int e = 0; e < 14; e++) {
            HingeFrames x = new HingeFrames();
            x.joint(0, 0, 7);
            x.joint(6, 0, 7);
            for (int b = 0; b < 7; b++) {
                x.bar(b % 2, 1 - b % 2, 100 - 9 * b, 200 - 11 * b);
            }
            int p = 100 - 9 * (e / 2);
            int q = 200 - 11 * (e / 2);
            int[][] told = {{p, 0}, {p + 1, 2}, {-q, 0}, {-q - 1, 2}, {MAX, 2}, {MIN, 2}, {MIN + 1, 2}};
            for (int[] t : told) {
                feedOne(x, e, t[0]);
                due(t[0] + " at END " + e, x.bends(0, 1, 1), t[1]);
            }
        }
    }

    private static void bends() {
        says("BENDS that are told (a whole number for each END, by numbers;");
        // at JOINT 1 bends 1 and 2 together 0; (m0 + m1 - m2 - m3) / 3 is the LOAD times the factor
        HingeFrames x = beam(3, 6, 6, 5);
        x.feed(6, 5, -5, -5, 0);
        due("21 / 3", x.bends(0, 7, 1), 0);
        x.feed(6, -5, 5, -5, 0);
        due("END 1 and END 2 turned round", x.bends(0, 7, 1), 1);
        says("BALANCE a CASE times a factor (n / d, d 1 to 1000), if for all MOVES the sum of BENDS times TURNS is WORK times the factor");
        for (int d = 999; d <= 1001; d++) {
            x.feed(6, 5, -5, -5, 0);
            due("7 d / d with " + d, x.bends(0, 7 * d, d), d <= 1000 ? 0 : -1);
        }
        due("d 0", x.bends(0, 7, 0), -1);
        due("d -1", x.bends(0, -7, -1), -1);
        due("d MIN", x.bends(0, 7, MIN), -1);
        due("d 1", x.bends(0, 7, 1), 0);
        x.feed(6, 5, -5, -4, 0);
        due("20 / 3", x.bends(0, 20, 3), 0);
        x.feed(6, 5, -5, -4, 0);
        due("7", x.bends(0, 7, 1), 1);
        x.feed(6, 5, -4, -6, 0);
        due("JOINT 1 is not in balance", x.bends(0, 7, 1), 1);
        says("at those that are PINNED 0, else they don't)");
        x.pin(3, true);
        x.feed(6, 5, -5, -5, 0);
        due("-5 where it is PINNED", x.bends(0, 7, 1), 1);
        x.feed(6, 5, -5, 0, 0);
        due("0 where it is PINNED", x.bends(0, 16, 3), 0);
        x.feed(6, 5, -5, 1, 0);
        due("1 where it is PINNED", x.bends(0, 16, 3), 1);
        x.feed(0, 0, 0, MIN, 0);
        due("MIN where it is PINNED", x.bends(1, 0, 1), 1);
        says("(LOOSE ones too).");
        x.joint(5, 5, 4);
        x.feed(6, 5, -5, 0, 0);
        due("LOOSE ones without WORK", x.bends(0, 16, 3), 0);
        x.load(0, 3, 0, 1);
        x.feed(6, 5, -5, 0, 0);
        due("LOOSE ones with WORK", x.bends(0, 16, 3), 1);
        x.feed(0, 0, 0, 0, 0);
        due("LOOSE ones with WORK, 0 times", x.bends(0, 0, 3), 0);
        says("They are WITHIN strength, if none is above P, nor below Q with its sign turned.");
        HingeFrames y = arm(1, 8, 3);
        y.load(0, 1, 0, -1);
        int[][] told = {{8, 0}, {9, 2}, {-3, 0}, {-4, 2}, {0, 0}};
        for (int[] t : told) {
            y.feed(t[0], 0, 0, 0, 0);
            due("bend " + t[0], y.bends(0, t[0], 1), t[1]);
        }
        // no LOADS: m at both ENDS of each BAR, turned round at the other one
        HingeFrames z = new HingeFrames();
        z.joint(0, 0, 7);
        z.joint(1, 0, 7);
        z.bar(0, 1, 8, 3);
        int[][] both = {{8, 8, 0}, {8, 9, 2}, {9, 8, 2}, {-3, -3, 0}, {-3, -4, 2}, {-4, -3, 2}, {MAX, 0, 2}, {0, MIN, 2}};
        for (int[] t : both) {
            z.feed(t[0], t[1], 0, 0, 0);
            due("bends " + t[0] + ", " + t[1], z.bends(0, 1, 1), t[2]);
        }
    }

    private static void turns() {
        says("TURNS that are told (whole numbers from -10000 to 10000 likewise;");
        HingeFrames x = arm(1, 8, 3);
        x.load(0, 1, 0, -1);
        int[][] told = {{10000, 10000, 0}, {10000, -10000, 0}, {10001, 0, 1}, {10000, 10001, 1}, {10000, -10001, 1},
            {-10000, 0, 2}, {-10001, 0, 1}, {MIN, 0, 1}, {MAX, 0, 1}, {1, MIN, 1}, {1, MAX, 1}, {0, 10000, 2}, {0, 10001, 1}};
        for (int[] t : told) {
            x.feed(t[0], t[1], 0, 0, 0);
            due("turns " + t[0] + ", " + t[1], x.turning(0), t[2]);
        }
        says("PINNED: 0)");
        x.pin(1, true);
        x.feed(1, 1, 0, 0, 0);
        due("1 where it is PINNED", x.turning(0), 1);
        x.feed(1, -1, 0, 0, 0);
        due("-1 where it is PINNED", x.turning(0), 1);
        x.feed(1, 0x01000000, 0, 0, 0);
        due("the highest byte where it is PINNED", x.turning(0), 1);
        x.feed(1, 0, 0, 0, 0);
        due("0 where it is PINNED", x.turning(0), 0);
        says("CAN BE, if they are those of some MOVES;");
        // LENGTHS 2 and 4: END 0 turns by -v / 2, END 3 by v / 4, ENDS 1 and 2 by t more than these
        HingeFrames y = beam(2, 6, 1, 1);
        int[][] beams = {{2, 3, 0, -1, 0}, {2, 0, -3, -1, 0}, {2, 2, -1, -1, 0}, {2, 2, 0, -1, 1}, {2, 3, 0, 0, 1}, {1, 1, 0, 0, 1},
            {0, 1, 1, 0, 2}, {0, 1, 2, 0, 1}, {-2, -3, 0, 1, 2}, {0, 0, 0, 0, 2}, {10000, 10000, -5000, -5000, 0},
            {10000, 10000, -5000, -5001, 1}};
        for (int[] t : beams) {
            y.feed(t[0], t[1], t[2], t[3], 0);
            due("turns " + t[0] + ", " + t[1] + ", " + t[2] + ", " + t[3], y.turning(0), t[4]);
        }
        says("BOUND by them: BEARS through WORK.");
        HingeFrames z = beam(2, 6, 1, 10);
        z.feed(10000, 10000, -5000, -5000, 0);
        z.turning(0);
        // 20000 and 100000 through 20000
        due("BOUND above", z.bound(0), 6);
        due("BOUND below", z.bound(1), 1);
        z.load(0, 1, 0, -100);
        z.feed(2, 3, 0, -1, 0);
        z.turning(0);
        due("15 through 400, above", z.bound(0), 3);
        due("15 through 400, below", z.bound(1), 80);
    }

    private static void rolling() {
        says("ROLLING: a LOAD (x, y) stands alone at one of some JOINTS: that at which THE GREATEST is least;");
        HingeFrames x = new HingeFrames();
        for (int j = 0; j < 7; j++) {
            x.joint(6 - j, 0, j == 6 ? 7 : 0);
        }
        for (int j = 0; j < 6; j++) {
            x.bar(j, j + 1, 30, 30);
        }
        x.load(0, 3, 100, 100);
        for (int j = 0; j < 6; j++) {
            due("from JOINT " + j + " on", x.rolls(0, -1, 127 & -1 << j), j);
            due("JOINT " + j + " alone", x.rolls(0, -1, 1 << j), j);
        }
        says("(none: nowhere one brings it down).");
        due("JOINT 6, which is HELD", x.rolls(0, -1, 64), -2);
        due("no LOAD", x.rolls(0, 0, 127), -2);
        due("along the BARS", x.rolls(-100, 0, 127), -2);
        says("of like ones the lowest");
        for (int b = 0; b < 6; b++) {
            x.strength(b, 0, 0);
        }
        // no strength: THE GREATEST is 0 at all, but for JOINT 6, where there is none
        for (int j = 0; j < 6; j++) {
            due("from JOINT " + j + " on", x.rolls(0, -1, 127 & -1 << j), j);
        }
        HingeFrames y = beam(3, 6, 4, 4);
        y.joint(3, 3, 0);
        y.bar(1, 3, 4, 4);
        // v is alike at JOINTS 1 and 3
        due("JOINTS 1 and 3", y.rolls(0, 1, 15), 1);
        due("JOINT 3", y.rolls(0, 1, 13), 3);
        y.joint(6, 6, 7);
        due("one that is HELD does not count", y.rolls(0, 1, 24), 3);
    }

    private static void out() {
        says("OUT: THE GREATEST of a CASE without one BAR");
        HingeFrames x = beam(3, 6, 6, 3);
        // left: END 3 by -1 (BEARS 3), WORK 3; right: END 0 by 1 (BEARS 6), WORK 3
        due("without BAR 0, above", x.out(0, 0, 0), 1);
        due("without BAR 0, below", x.out(0, 0, 1), 1);
        due("without BAR 1, above", x.out(0, 1, 0), 2);
        due("without BAR 1, below", x.out(0, 1, 1), 1);
        // (1, 2, 0, -1) BEARS 21, (1, 0, -2, -1) 15
        greatestDue("with both", x, 0, 5, 1);
        says("(its ENDS away, too).");
        HingeFrames y = arm(2, 6, 3);
        y.bar(0, 1, 600, 300);
        y.load(0, 1, 0, 1);
        due("without the strong one, above", y.out(0, 1, 0), 3);
        due("without the strong one, below", y.out(0, 1, 1), 2);
        due("without the weak one", y.out(0, 0, 0), 150);
        y.pin(2, true);
        y.pin(3, true);
        due("without one that is PINNED", y.out(0, 1, 0), 3);
        due("what is left is LOOSE", y.out(0, 0, 0), 0);
        due("what is left is LOOSE", y.out(0, 0, 1), 1);
    }

    private static void groupsAndList() {
        says("GROUPS 0 to 2 of BARS");
        HingeFrames x = arm(1, 1, 1);
        for (int g = -1; g <= 3; g++) {
            due("group(0, " + g + ")", x.group(0, g), g >= 0 && g <= 2);
        }
        due("the last that was allowed", x.look(0, 4), 2);
        says("(0 at first).");
        x.bar(0, 1, 1, 1);
        due("of another BAR", x.look(1, 4), 0);
        x.group(1, 2);
        x.undo();
        x.undo();
        x.feed(0x00010101, 0, 0, 0, 0);
        x.sheet(1);
        due("of a BAR where another one was", x.look(1, 4), 0);
        says("A LIST of up to six strengths");
        x.feed(1, 2, 3, 4, 5);
        x.feed(6, 7, 8, 9, 10);
        due("seven", x.list(7), false);
        due("none", x.list(0), false);
        due("six", x.list(6), true);
        due("count(5)", x.count(5), 6);
        says("(0 to 1000, growing).");
        int[][] lists = {{0, 1000, 1}, {0, 1001, 0}, {-1, 1000, 0}, {0, 0, 0}, {1000, 1000, 0}, {1, 0, 0}, {999, 1000, 1}, {0, 1, 1},
            {MIN, 0, 0}, {0, MAX, 0}};
        for (int[] l : lists) {
            x.feed(l[0], l[1], 0, 0, 0);
            due("a LIST of " + l[0] + ", " + l[1], x.list(2), l[2] == 1);
        }
        due("count(5)", x.count(5), 2);
    }

    private static HingeFrames withList(HingeFrames x, int a, int b, int c, int d, int e) {
        x.feed(a, b, c, d, e);
        x.list(5);
        return x;
    }

    private static void metal() {
        says("THE LEAST METAL for some CASES: a strength of the LIST for each GROUP that has BARS");
        // (2, 3, 0, -1) and (2, 0, -3, -1): 5 s + r and 2 s + 4 r against 4 times the LOAD
        HingeFrames x = withList(beam(2, 6, 1000, 1000), 1, 2, 3, 4, 5);
        x.load(0, 1, 0, -3);
        due("one GROUP", x.metal(1, 0), 2);
        says("(for P and Q of all of them;");
        x.strength(0, 0, 1000);
        x.strength(1, 1000, 0);
        due("its own strengths do not count", x.metal(1, 0), 2);
        x.load(1, 1, 0, 3);
        due("the other way it is alike", x.metal(2, 0), 2);
        due("P stays", x.look(0, 2), 0);
        says("of others the first),");
        due("GROUP 1", x.metal(1, 1), 1);
        due("GROUP 2", x.metal(1, 2), 1);
        HingeFrames none = withList(new HingeFrames(), 11, 22, 33, 44, 55);
        for (int g = 0; g < 3; g++) {
            due("GROUP " + g + " without BARS", none.metal(63, g), 11);
        }
        due("cost without BARS", none.metal(63, -1), 0);
        says("so that each of these CASES has THE GREATEST 1 or more");
        HingeFrames arm = withList(arm(1, 1, 1), 49, 50, 51, 52, 53);
        for (int y = 48; y <= 54; y++) {
            arm.load(0, 1, 0, y);
            due("a LOAD of " + y, arm.metal(1, 0), y > 53 ? -2 : Math.max(y, 49));
        }
        arm.load(5, 1, 0, -52);
        arm.load(0, 1, 0, 50);
        due("CASE 0", arm.metal(1, 0), 50);
        due("CASE 5", arm.metal(32, 0), 52);
        due("both", arm.metal(33, 0), 52);
        arm.load(4, 1, 0, 54);
        due("one is too heavy", arm.metal(49, 0), -2);
        says("(or none),");
        due("a CASE without LOADS", arm.metal(2, 0), 49);
        arm.load(1, 1, 100, 0);
        due("a CASE whose LOAD has no WORK", arm.metal(2, 0), 49);
        due("with CASE 0", arm.metal(3, 0), 50);
        says("of least cost: LENGTHS times strengths;");
        due("cost of the beam", x.metal(1, -1), 12);
        due("cost of the arm", arm.metal(1, -1), 50);
        x.load(2, 1, 0, -4);
        x.group(1, 1);
        // against 16: (3, 3) costs 18, (4, 2) 16, (5, 2) 18
        due("cost of two GROUPS", x.metal(4, -1), 16);
        due("GROUP 0", x.metal(4, 0), 4);
        due("GROUP 1", x.metal(4, 1), 2);
        due("GROUP 2", x.metal(4, 2), 1);
        HingeFrames idle = withList(arm(3, 9, 9), 7, 8, 9, 10, 11);
        idle.bar(0, 1, 9, 9);
        idle.group(1, 1);
        idle.pin(2, true);
        idle.pin(3, true);
        idle.load(0, 1, 0, 3);
        due("a BAR that is PINNED costs, too", idle.metal(1, -1), 3 * 9 + 3 * 7);
        due("its GROUP", idle.metal(1, 1), 7);
        says("of like ones the least row of strengths (GROUP 0 first).");
        // against 12: (2, 2) costs 12, (4, 1) 12, too
        due("cost", x.metal(1, -1), 12);
        due("GROUP 0", x.metal(1, 0), 2);
        due("GROUP 1", x.metal(1, 1), 2);
        x.group(0, 2);
        // now BAR 1 comes first: 4 and 1 for it and BAR 0, or 2 and 2
        due("cost", x.metal(1, -1), 12);
        due("GROUP 1", x.metal(1, 1), 1);
        due("GROUP 2", x.metal(1, 2), 4);
        due("GROUP 0 has no BARS now", x.metal(1, 0), 1);
    }

    /** Three arms of LENGTH 1, one of each GROUP: each needs its own LOAD. */
    private static void metalOfThreeGroups() {
        says("THE LEAST METAL for some CASES: a strength of the LIST for each GROUP that has BARS");
        int[][] loads = {{1, 1, 1}, {3, 5, 6}, {6, 5, 3}, {6, 6, 6}, {1, 6, 1}, {6, 1, 6}, {2, 0, 6}, {0, 0, 0}};
        for (int[] l : loads) {
            HingeFrames x = threeArms(l);
            int sum = 0;
            for (int g = 0; g < 3; g++) {
                due("GROUP " + g, x.metal(1, g), Math.max(1, l[g]));
                sum += Math.max(1, l[g]);
            }
            due("cost", x.metal(1, -1), sum);
        }
        int[][] heavy = {{7, 1, 1}, {1, 7, 1}, {1, 1, 7}};
        for (int[] l : heavy) {
            due("one that is too heavy", threeArms(l).metal(1, -1), -2);
        }
    }

    private static HingeFrames threeArms(int[] loads) {
        HingeFrames x = new HingeFrames();
        for (int g = 0; g < 3; g++) {
            x.joint(0, 2 * g, 7);
            x.joint(1, 2 * g, 0);
            x.bar(2 * g, 2 * g + 1, 9, 9);
            x.group(g, g);
            x.load(0, 2 * g + 1, 0, loads[g]);
        }
        x.feed(1, 2, 3, 4, 5);
        x.feed(6, 0, 0, 0, 0);
        x.list(6);
        return x;
    }

    private static void sheets() {
        says("A SHEET: by fours of bytes: two JOINTS, P, Q (0 to 255): BARS one behind the other;");
        HingeFrames x = beam(2, 6, 1, 1);
        x.feed(0x000100ff, 0x0201ff00, 0x0002ffff, 0x02000000, 0x01007f80);
        due("five", x.sheet(5), 7);
        int[][] bars = {{0, 1, 0, 255, 0, 2}, {2, 1, 255, 0, 0, 4}, {0, 2, 255, 255, 0, 6}, {2, 0, 0, 0, 0, 6}, {1, 0, 127, 128, 0, 2}};
        for (int b = 0; b < 5; b++) {
            for (int what = 0; what < 6; what++) {
                due("look(" + (b + 2) + ", " + what + ")", x.look(b + 2, what), bars[b][what]);
            }
        }
        says("the first byte that can't be: at a JOINT that is none,");
        HingeFrames y = beam(2, 6, 1, 1);
        y.joint(1, 1, 0);
        int[][] bad = {{0x04000000, -10}, {0x00040000, -11}, {0xff000000, -10}, {0x00ff0000, -11}, {0x80800000, -10}};
        for (int[] b : bad) {
            y.feed(b[0], 0, 0, 0, 0);
            due("a four of " + Integer.toHexString(b[0]), y.sheet(1), b[1]);
        }
        says("or the same twice,");
        y.feed(0x00010000, 0x03030000, 0, 0, 0);
        due("JOINT 3 twice", y.sheet(2), -15);
        y.feed(0x04040000, 0, 0, 0, 0);
        due("one that is none twice", y.sheet(1), -10);
        says("or not in a row or column (at the second one);");
        y.feed(0x00010000, 0x00010000, 0x00030000, 0, 0);
        due("JOINTS 0 and 3", y.sheet(3), -19);
        says("then none is taken.");
        due("count(1)", y.count(1), 2);
        due("count(3)", y.count(3), 7);
        due("count(2)", y.count(2), 0);
        due("look(2, 0)", y.look(2, 0), -1);
        y.feed(0x00010909, 0, 0, 0, 0);
        due("then one that can be", y.sheet(1), 3);
        due("its P", y.look(2, 2), 9);
    }

    private static void undo() {
        says("UNDO: acts (joint, bar, pin, strength, load, group: those that were not refused;");
        HingeFrames x = new HingeFrames();
        x.joint(0, 0, 7);
        x.joint(1, 0, 0);
        x.bar(0, 1, 3, 4);
        x.pin(1, true);
        x.strength(0, 5, 6);
        x.load(2, 1, 7, 8);
        x.group(0, 1);
        x.joint(1, 0, 0);
        x.bar(0, 2, 1, 1);
        x.pin(1, true);
        x.strength(0, 5, 1001);
        x.load(2, 1, 7, 101);
        x.group(0, 3);
        due("seven acts", x.count(3), 7);
        says("are undone, the last one first");
        due("group", x.undo(), 6);
        due("GROUP", x.look(0, 4), 0);
        due("LOAD", x.place(1, 14), 7);
        due("load", x.undo(), 5);
        due("LOAD", x.place(1, 14), 0);
        due("LOAD", x.place(1, 15), 0);
        due("P", x.look(0, 2), 5);
        due("strength", x.undo(), 4);
        due("P", x.look(0, 2), 3);
        due("Q", x.look(0, 3), 4);
        due("PINNED", x.look(0, 7), 1);
        due("pin", x.undo(), 3);
        due("PINNED", x.look(0, 7), 0);
        due("bar", x.undo(), 2);
        due("BARS", x.count(1), 0);
        due("joint", x.undo(), 1);
        due("JOINTS", x.count(0), 1);
        due("joint", x.undo(), 0);
        due("JOINTS", x.count(0), 0);
        due("no more", x.undo(), -1);
        says("a SHEET is one)");
        HingeFrames y = beam(2, 6, 1, 1);
        y.feed(0x00010101, 0x00010202, 0x00010303, 0x00010404, 0x00010505);
        y.sheet(5);
        due("count(3)", y.count(3), 7);
        due("undo()", y.undo(), 6);
        due("BARS", y.count(1), 2);
        due("redo()", y.redo(), 0);
        due("BARS", y.count(1), 7);
        due("P of the last one", y.look(6, 2), 5);
        says("(the latest 60 of them);");
        HingeFrames z = new HingeFrames();
        z.joint(0, 0, 0);
        for (int i = 2; i <= 60; i++) {
            z.load(0, 0, i, i);
        }
        due("60 acts", z.count(3), 60);
        z.load(0, 0, 61, 61);
        due("61 acts", z.count(3), 60);
        for (int i = 59; i >= 0; i--) {
            due("undo()", z.undo(), i);
        }
        due("the first act stays", z.count(0), 1);
        due("LOAD", z.place(0, 10), 0);
        due("no more", z.undo(), -1);
        says("(The LIST is no act.)");
        z.feed(1, 2, 3, 0, 0);
        due("list(3)", z.list(3), true);
        due("count(3)", z.count(3), 0);
        due("count(4)", z.count(4), 60);
        due("undo()", z.undo(), -1);
        due("redo()", z.redo(), 59);
        due("the LIST stays", z.count(5), 3);
    }

    private static void redo() {
        says("REDO: done again, as long as no other act came.");
        HingeFrames x = new HingeFrames();
        x.joint(0, 0, 7);
        x.joint(1, 0, 0);
        x.bar(0, 1, 3, 4);
        x.pin(1, true);
        x.strength(0, 5, 6);
        x.load(2, 1, 7, 8);
        x.group(0, 1);
        for (int i = 0; i < 7; i++) {
            x.undo();
        }
        due("JOINT 0", x.redo(), 6);
        due("HELD", x.place(0, 2), 7);
        due("JOINT 1", x.redo(), 5);
        due("BAR 0", x.redo(), 4);
        due("P", x.look(0, 2), 3);
        due("pin", x.redo(), 3);
        due("PINNED", x.look(0, 7), 1);
        due("strength", x.redo(), 2);
        due("Q", x.look(0, 3), 6);
        due("load", x.redo(), 1);
        due("LOAD", x.place(1, 15), 8);
        due("group", x.redo(), 0);
        due("GROUP", x.look(0, 4), 1);
        due("no more", x.redo(), -1);
        x.undo();
        x.undo();
        x.pin(0, false);
        due("behind a refused act", x.count(4), 2);
        x.pin(0, true);
        due("behind another act", x.count(4), 0);
        due("behind another act", x.redo(), -1);
        due("count(3)", x.count(3), 6);
        x.undo();
        due("it can be done again itself", x.redo(), 0);
        due("PINNED", x.look(0, 6), 1);
        redoWraps();
    }

    /** Acts, UNDO and REDO again and again, so that a store of 60 acts goes round several times. */
    private static void redoWraps() {
        HingeFrames x = new HingeFrames();
        x.joint(0, 0, 0);
        int acts = 1;
        for (int round = 0; round < 8; round++) {
            for (int i = 0; i < 25; i++) {
                x.load(0, 0, (acts + i) % 100, 0);
            }
            acts += 25;
            for (int i = 0; i < 10; i++) {
                x.undo();
            }
            due("LOAD behind UNDO", x.place(0, 10), (acts - 11) % 100);
            for (int i = 0; i < 5; i++) {
                x.redo();
            }
            acts -= 5;
            due("LOAD behind REDO", x.place(0, 10), (acts - 1) % 100);
            due("count(3)", x.count(3), Math.min(acts, 55));
            due("count(4)", x.count(4), 5);
        }
    }

    /** Acts, UNDO, REDO and new LISTS in a fixed but mixed order, and questions behind some of them. */
    private static void asksBetweenUndoAndRedo() {
        says("REDO: done again, as long as no other act came.");
        for (int start = 1; start <= 60; start++) {
            HingeFrames x = arm(1, 100, 100);
            int[] loads = new int[60];
            int at = 0;
            int last = 0;
            int least = 0;
            int chance = start;
            for (int i = 0; i < 56; i++) {
                chance = (chance * 1103515245 + 12345) & MAX;
                int kind = chance >> 16 & 7;
                if (kind < 2 && at > 0) {
                    x.undo();
                    at--;
                } else if (kind < 4 && at < last) {
                    x.redo();
                    at++;
                } else if (kind == 4) {
                    least = i + 20;
                    x.feed(least, 101, 0, 0, 0);
                    x.list(2);
                } else {
                    at++;
                    last = at;
                    loads[at] = 1 + i;
                    x.load(0, 1, 0, loads[at]);
                }
                if ((chance >> 20 & 3) <= start % 3) {
                    ask(x, i, loads[at], least);
                }
            }
        }
        HingeFrames x = arm(1, 100, 100);
        x.load(0, 1, 0, 1);
        x.load(0, 1, 0, 2);
        x.undo();
        x.undo();
        ask(x, 0, 0, 0);
        x.redo();
        x.load(0, 1, 0, 4);
        ask(x, 1, 4, 0);
        x.feed(7, 101, 0, 0, 0);
        x.list(2);
        ask(x, 2, 4, 7);
        x.load(0, 1, 0, 5);
        x.feed(9, 101, 0, 0, 0);
        x.list(2);
        ask(x, 3, 5, 9);
    }

    /** The arm bears 100 through its LOAD; the LIST has that least strength (0: there is no LIST) and 101. */
    private static void ask(HingeFrames x, int step, long y, long least) {
        due("greatest at step " + step, x.greatest(0, 0), y == 0 ? -2 : 100 / commonDivisor(100, y));
        due("worth at step " + step, x.worth(0, 0, 0), y == 0 ? -2 : 101);
        due("out at step " + step, x.out(0, 0, 0), y == 0 ? -2 : 0);
        due("falls at step " + step, x.falls(0), y == 0 ? 0 : 1);
        due("metal at step " + step, x.metal(1, 0), least == 0 ? -1 : y <= least ? least : 101);
    }

    private static void asksBehindUndoOfAll() {
        says("are undone, the last one first");
        HingeFrames x = beam(2, 6, 5, 5);
        x.feed(5, 6, 0, 0, 0);
        x.list(2);
        greatestDue("the beam", x, 0, 15, 2);
        due("its OUT", x.out(0, 0, 0), 5);
        for (int i = 0; i < 6; i++) {
            x.undo();
        }
        due("FREE", x.free(0), 0);
        due("LOOSE", x.free(1), 0);
        due("TURNS", x.free(2), 0);
        due("falls(-1)", x.falls(-1), 0);
        due("falls(0)", x.falls(0), 0);
        due("greatest(0, 0)", x.greatest(0, 0), -2);
        due("fall(0, 0)", x.fall(0, 0), NO_TURN);
        due("metal(1, -1)", x.metal(1, -1), 0);
        due("rolls(0, -1, 1)", x.rolls(0, -1, 1), -1);
        due("bends of no ENDS", x.bends(0, 1, 1), 0);
        x.joint(3, 3, 0);
        due("another JOINT's LOOSE MOVES", x.free(1), 3);
    }

    private static void ownMemory() {
        says("All memory is the bench's own.");
        HingeFrames x = beam(2, 6, 5, 5);
        HingeFrames y = arm(1, 7, 9);
        y.load(0, 1, 0, 1);
        greatestDue("the beam's", x, 0, 15, 2);
        greatestDue("the arm's", y, 0, 9, 1);
        x.feed(2, 3, 0, -1, 0);
        due("the arm's tape", y.count(2), 0);
        due("the beam's TURNS", x.turning(0), 0);
        due("the arm's BOUND", y.bound(0), -1);
        x.feed(1, 2, 3, 4, 5);
        x.list(5);
        due("the arm's LIST", y.count(5), 0);
        due("the beam's metal", x.metal(1, 0), 1);
        due("the arm's metal", y.metal(1, 0), -1);
        due("the beam's OUT", x.out(0, 0, 0), 5);
        due("the arm's OUT", y.out(0, 0, 0), 0);
        y.pin(1, true);
        due("the beam's acts", x.count(3), 6);
        due("the beam's ENDS", x.look(0, 7), 0);
        y.feed(0, 0, 0, 0, 0);
        due("the beam's tape", x.count(2), 0);
        y.undo();
        due("the beam's REDO", x.redo(), -1);
        greatestDue("the beam's", x, 0, 15, 2);
        greatestDue("the arm's", y, 0, 9, 1);
        says("`NONE = -1`: There is none.");
        due("NONE", HingeFrames.NONE, -1);
        due("what NONE is the cost", x.metal(1, HingeFrames.NONE), 6);
        due("CASE NONE is all FALLS", x.falls(HingeFrames.NONE), 6);
    }

    private static void manyCalls() {
        says("An object is used for at most 512 calls after it has been made;");
        HingeFrames x = new HingeFrames();
        x.joint(0, 0, 7);
        x.joint(1, 0, 0);
        x.bar(0, 1, 9, 9);
        for (int i = 0; i < 507; i++) {
            x.load(0, 1, 0, 1 + i % 100);
        }
        due("call 511", x.greatest(0, 0), 9);
        due("call 512", x.greatest(0, 1), 7);
        HingeFrames y = beam(2, 6, 5, 5);
        for (int i = 0; i < 168; i++) {
            y.feed(2, 3, 0, -1, 0);
            due("turning(0)", y.turning(0), 0);
            due("bound(0)", y.bound(0), 15);
        }
        due("call 511", y.count(3), 6);
        due("call 512", y.bound(1), 2);
        HingeFrames z = beam(2, 6, 5, 5);
        for (int i = 0; i < 251; i++) {
            due("undo()", z.undo(), 5);
            due("redo()", z.redo(), 0);
        }
        due("call 509", z.greatest(0, 0), 15);
        due("call 510", z.undo(), 5);
        due("call 511", z.greatest(0, 0), -2);
        due("call 512", z.redo(), 0);
    }
}
