import java.util.ArrayList;
import java.util.Arrays;
import java.util.List;
import java.util.function.Consumer;
import java.util.function.Supplier;
import java.util.function.ToLongFunction;

/**
 * Behind each call that is refused (and each that only uses up the tape) all other answers are as
 * before: those of questions, asked before it and asked behind it for the first time, the acts that
 * UNDO and REDO bring, the bytes of the tape.
 */
public final class RefusedCallsChangeNothing {
    private static final int MIN = Integer.MIN_VALUE;
    private static final int MAX = Integer.MAX_VALUE;
    private static final long NO_TURN = -1000000000000L;
    private static int checks = 0;
    private static int wrong = 0;

    private record Call(String name, ToLongFunction<HingeFrames> ask, long want) {
    }

    /** A frame to begin with, what its tape must still do, and the calls that it refuses beside those that all refuse. */
    private record Bench(String name, Supplier<HingeFrames> make, ToLongFunction<HingeFrames> useTape, List<Call> refused,
        List<Call> onlyTape) {
    }

    public static void main(String[] args) {
        says("A call that is refused (NONE, false) changes nothing but the tape, where it is told.");
        Bench[] benches = {
            new Bench("a new object", HingeFrames::new, x -> x.count(2), refusedByNew(), usedUpByNew()),
            new Bench("a portal", RefusedCallsChangeNothing::portal, RefusedCallsChangeNothing::sheetOfPortal, refusedByPortal(),
                usedUpByPortal()),
            new Bench("a full row", RefusedCallsChangeNothing::full, x -> x.bends(5, 1, 1), refusedByFull(), usedUpByFull())};
        for (Bench bench : benches) {
            for (Call call : alwaysRefused()) {
                refuse(bench, call, false);
            }
            for (Call call : bench.refused) {
                refuse(bench, call, false);
            }
            for (Call call : bench.onlyTape) {
                refuse(bench, call, true);
            }
        }
        System.out.println(checks + " checks, " + wrong + " wrong");
        if (wrong != 0) {
            System.exit(1);
        }
    }

    /** The words of the document that this test is for. */
    private static void says(String quote) {
        System.out.println(quote);
    }

    private static void same(Bench bench, Call call, String what, long[] got, long[] want) {
        checks++;
        if (!Arrays.equals(got, want)) {
            wrong++;
            System.out.println(bench.name + ", behind " + call.name + ": " + what + " " + Arrays.toString(got) + ", before "
                + Arrays.toString(want));
        }
    }

    private static void refuse(Bench bench, Call call, boolean tapeGoes) {
        HingeFrames warm = bench.make.get();
        long[] before = answers(warm);
        if (tapeGoes) {
            before[2] = 0;
        }
        long[] due = {call.want};
        same(bench, call, "it answered", new long[] {call.ask.applyAsLong(warm)}, due);
        same(bench, call, "answers are", answers(warm), before);

        HingeFrames cold = bench.make.get();
        call.ask.applyAsLong(cold);
        same(bench, call, "answers that were not asked before are", answers(cold), before);

        HingeFrames acted = bench.make.get();
        call.ask.applyAsLong(acted);
        same(bench, call, "acts are", acts(acted), acts(bench.make.get()));

        HingeFrames used = bench.make.get();
        call.ask.applyAsLong(used);
        long[] tape = {tapeGoes ? used.count(2) : bench.useTape.applyAsLong(used)};
        same(bench, call, "the tape does", tape, new long[] {tapeGoes ? 0 : bench.useTape.applyAsLong(bench.make.get())});
    }

    /** What questions tell: fewer than 200 calls, so that one object answers them twice. */
    private static long[] answers(HingeFrames x) {
        List<Long> all = new ArrayList<>();
        for (int what = 0; what < 6; what++) {
            all.add((long) x.count(what));
        }
        for (int b = 0; b < 7; b++) {
            for (int what = 0; what < 8; what++) {
                all.add((long) x.look(b, what));
            }
        }
        int[] places = {0, 1, 2, 10, 11, 20, 21};
        for (int j = 0; j < 7; j++) {
            for (int what : places) {
                all.add((long) x.place(j, what));
            }
        }
        for (int what = 0; what < 3; what++) {
            all.add((long) x.free(what));
        }
        for (int c = 0; c < 6; c++) {
            all.add((long) x.falls(c));
            all.add(x.greatest(c, 0));
            all.add(x.greatest(c, 1));
            all.add((long) x.only(c));
            all.add(x.worth(c, 0, 0));
            all.add(x.out(c, 0, 0));
        }
        for (int e = 0; e < 14; e++) {
            all.add(x.fall(0, e));
            all.add(x.fall(5, e));
        }
        all.add((long) x.falls(-1));
        all.add(x.bound(0));
        all.add(x.bound(1));
        all.add((long) x.rolls(0, -1, 3));
        for (int what = -1; what < 3; what++) {
            all.add(x.metal(33, what));
        }
        return all.stream().mapToLong(Long::longValue).toArray();
    }

    /** All acts back, then all on again, with what has changed by them. */
    private static long[] acts(HingeFrames x) {
        List<Long> all = new ArrayList<>();
        Consumer<Integer> tell = n -> {
            all.add((long) n);
            all.add((long) x.count(1));
            all.add((long) x.place(0, 10));
        };
        for (int i = 0; i <= 61; i++) {
            tell.accept(x.undo());
        }
        for (int i = 0; i <= 61; i++) {
            tell.accept(x.redo());
        }
        return all.stream().mapToLong(Long::longValue).toArray();
    }

    /** A portal with a JOINT aside, which is LOOSE in CASE 3; two acts are undone; 40 bytes are on the tape. */
    private static HingeFrames portal() {
        HingeFrames x = new HingeFrames();
        x.joint(0, 0, 7);
        x.joint(0, 3, 0);
        x.joint(4, 3, 0);
        x.joint(4, 0, 3);
        x.joint(6, 6, 0);
        x.bar(0, 1, 10, 11);
        x.bar(2, 1, 12, 13);
        x.bar(2, 3, 14, 15);
        x.pin(5, true);
        x.group(2, 2);
        x.load(0, 1, 4, 0);
        x.load(0, 2, 0, -6);
        x.load(3, 4, 1, 1);
        x.load(5, 2, -7, 2);
        x.feed(5, 10, 20, 30, 40);
        x.list(5);
        x.feed(1, 1, 0, 0, 1);
        x.feed(0, 0, 0, 0, 0);
        x.turning(0);
        x.load(0, 0, 33, 0);
        x.load(0, 0, 44, 0);
        x.strength(0, 1, 2);
        x.undo();
        x.undo();
        x.feed(0x00010203, 0x01020405, 0x02030607, 0x03020809, -1);
        x.feed(MIN, MAX, 0, 0, 0);
        return x;
    }

    /** The first 16 bytes of the portal's tape, as one number. */
    private static long sheetOfPortal(HingeFrames x) {
        long sum = x.sheet(4);
        for (int b = 3; b < 7; b++) {
            for (int what = 0; what < 4; what++) {
                sum = 31 * sum + x.look(b, what);
            }
        }
        return sum;
    }

    /** Seven JOINTS, seven BARS, a LIST of six, 60 acts and more, 200 bytes, of which 56 BALANCE CASE 5. */
    private static HingeFrames full() {
        HingeFrames x = new HingeFrames();
        for (int j = 0; j < 7; j++) {
            x.joint(j, 0, j == 0 ? 7 : 0);
        }
        for (int b = 0; b < 6; b++) {
            x.bar(b, b + 1, 12, 12);
        }
        x.bar(5, 6, 12, 12);
        x.load(5, 6, 0, -1);
        for (int i = 0; i < 50; i++) {
            x.load(0, 0, i, -i);
        }
        x.feed(1, 2, 3, 4, 5);
        x.feed(6, 0, 0, 0, 0);
        x.list(6);
        x.feed(6, -5, 5, -4, 4);
        x.feed(-3, 3, -2, 2, -1);
        x.feed(9, 1, -8, -1, 0);
        for (int i = 3; i < 10; i++) {
            x.feed(MIN, MAX, -1, 0, i);
        }
        return x;
    }

    private static long is(boolean b) {
        return b ? 1 : 0;
    }

    private static Call none(String name, ToLongFunction<HingeFrames> ask) {
        return new Call(name, ask, -1);
    }

    private static Call no(String name, ToLongFunction<HingeFrames> ask) {
        return new Call(name, ask, 0);
    }

    /** Calls that no bench can take. */
    private static List<Call> alwaysRefused() {
        List<Call> all = new ArrayList<>();
        int[] far = {-1, 7, MIN, MAX};
        for (int n : far) {
            all.add(none("joint(" + n + ", 5, 0)", x -> x.joint(n, 5, 0)));
            all.add(none("joint(5, " + n + ", 0)", x -> x.joint(5, n, 0)));
            all.add(none("bar(" + n + ", 0, 1, 1)", x -> x.bar(n, 0, 1, 1)));
            all.add(none("bar(0, " + n + ", 1, 1)", x -> x.bar(0, n, 1, 1)));
            all.add(no("strength(" + n + ", 1, 1)", x -> is(x.strength(n, 1, 1))));
            all.add(no("load(" + n + ", 0, 1, 1)", x -> is(x.load(n, 0, 1, 1))));
            all.add(no("load(0, " + n + ", 1, 1)", x -> is(x.load(0, n, 1, 1))));
            all.add(no("group(" + n + ", 1)", x -> is(x.group(n, 1))));
            all.add(no("group(0, " + n + ")", x -> is(x.group(0, n))));
            all.add(none("free(" + n + ")", x -> x.free(n)));
            all.add(none("greatest(" + n + ", 0)", x -> x.greatest(n, 0)));
            all.add(none("greatest(0, " + n + ")", x -> x.greatest(0, n)));
            all.add(new Call("fall(" + n + ", 0)", x -> x.fall(n, 0), NO_TURN));
            all.add(none("only(" + n + ")", x -> x.only(n)));
            all.add(none("worth(" + n + ", 0, 0)", x -> x.worth(n, 0, 0)));
            all.add(none("worth(0, " + n + ", 0)", x -> x.worth(0, n, 0)));
            all.add(none("worth(0, 0, " + n + ")", x -> x.worth(0, 0, n)));
            all.add(none("bends(" + n + ", 0, 1)", x -> x.bends(n, 0, 1)));
            all.add(none("turning(" + n + ")", x -> x.turning(n)));
            all.add(none("bound(" + n + ")", x -> x.bound(n)));
            all.add(none("out(" + n + ", 0, 0)", x -> x.out(n, 0, 0)));
            all.add(none("out(0, " + n + ", 0)", x -> x.out(0, n, 0)));
            all.add(none("out(0, 0, " + n + ")", x -> x.out(0, 0, n)));
            all.add(no("list(" + n + ")", x -> is(x.list(n))));
            all.add(none("look(" + n + ", 0)", x -> x.look(n, 0)));
            all.add(new Call("place(" + n + ", 0)", x -> x.place(n, 0), -1000));
            all.add(none("count(" + n + ")", x -> x.count(n)));
        }
        int[] farther = {-2, 64, MIN, MAX};
        for (int n : farther) {
            all.add(none("joint(5, 5, " + n + ")", x -> x.joint(5, 5, n)));
            all.add(none("sheet(" + n + ")", x -> x.sheet(n)));
            all.add(none("falls(" + n + ")", x -> x.falls(n)));
            all.add(none("metal(" + n + ", 0)", x -> x.metal(n, 0)));
            all.add(none("metal(1, " + n + ")", x -> x.metal(1, n)));
            all.add(none("look(0, " + n + ")", x -> x.look(0, n)));
            all.add(new Call("place(0, " + n + ")", x -> x.place(0, n), -1000));
        }
        int[] strong = {-1, 1001, MIN, MAX};
        for (int n : strong) {
            all.add(none("bar(0, 1, " + n + ", 1)", x -> x.bar(0, 1, n, 1)));
            all.add(none("bar(0, 1, 1, " + n + ")", x -> x.bar(0, 1, 1, n)));
            all.add(no("strength(0, " + n + ", 1)", x -> is(x.strength(0, n, 1))));
            all.add(no("strength(0, 1, " + n + ")", x -> is(x.strength(0, 1, n))));
            all.add(none("bends(0, 0, " + n + ")", x -> x.bends(0, 0, n)));
            all.add(no("pin(" + n + ", true)", x -> is(x.pin(n, true))));
            all.add(no("pin(" + n + ", false)", x -> is(x.pin(n, false))));
            all.add(new Call("fall(0, " + n + ")", x -> x.fall(0, n), NO_TURN));
        }
        int[] heavy = {-101, 101, MIN, MAX};
        for (int n : heavy) {
            all.add(no("load(0, 0, " + n + ", 1)", x -> is(x.load(0, 0, n, 1))));
            all.add(no("load(0, 0, 1, " + n + ")", x -> is(x.load(0, 0, 1, n))));
            all.add(none("rolls(" + n + ", 1, 1)", x -> x.rolls(n, 1, 1)));
            all.add(none("rolls(1, " + n + ", 1)", x -> x.rolls(1, n, 1)));
        }
        all.add(none("bends(0, 1000001, 1)", x -> x.bends(0, 1000001, 1)));
        all.add(none("bends(0, -1000001, 1)", x -> x.bends(0, -1000001, 1)));
        all.add(none("bends(0, 1, 0)", x -> x.bends(0, 1, 0)));
        all.add(none("rolls(0, -1, 0)", x -> x.rolls(0, -1, 0)));
        all.add(none("rolls(0, -1, 128)", x -> x.rolls(0, -1, 128)));
        all.add(none("sheet(0)", x -> x.sheet(0)));
        all.add(no("list(0)", x -> is(x.list(0))));
        all.add(none("joint(5, 5, 8)", x -> x.joint(5, 5, 8)));
        all.add(none("sheet(8)", x -> x.sheet(8)));
        all.add(none("falls(6)", x -> x.falls(6)));
        all.add(none("metal(0, 0)", x -> x.metal(0, 0)));
        all.add(none("metal(1, 3)", x -> x.metal(1, 3)));
        all.add(none("look(0, 8)", x -> x.look(0, 8)));
        all.add(new Call("place(0, 22)", x -> x.place(0, 22), -1000));
        return all;
    }

    private static List<Call> refusedByNew() {
        List<Call> all = new ArrayList<>();
        all.add(none("bar(0, 1, 1, 1)", x -> x.bar(0, 1, 1, 1)));
        all.add(no("pin(0, true)", x -> is(x.pin(0, true))));
        all.add(no("strength(0, 1, 1)", x -> is(x.strength(0, 1, 1))));
        all.add(no("load(0, 0, 1, 1)", x -> is(x.load(0, 0, 1, 1))));
        all.add(no("group(0, 0)", x -> is(x.group(0, 0))));
        all.add(none("sheet(1)", x -> x.sheet(1)));
        all.add(no("list(1)", x -> is(x.list(1))));
        all.add(none("worth(0, 0, 0)", x -> x.worth(0, 0, 0)));
        all.add(none("out(0, 0, 0)", x -> x.out(0, 0, 0)));
        all.add(none("bound(0)", x -> x.bound(0)));
        all.add(none("rolls(0, 1, 1)", x -> x.rolls(0, 1, 1)));
        all.add(none("metal(1, -1)", x -> x.metal(1, -1)));
        all.add(none("undo()", x -> x.undo()));
        all.add(none("redo()", x -> x.redo()));
        all.add(none("look(0, 0)", x -> x.look(0, 0)));
        all.add(new Call("place(0, 0)", x -> x.place(0, 0), -1000));
        return all;
    }

    /** Without ENDS no bytes are needed: an empty tape stays empty. */
    private static List<Call> usedUpByNew() {
        List<Call> all = new ArrayList<>();
        all.add(new Call("bends(0, 1, 1)", x -> x.bends(0, 1, 1), 0));
        all.add(new Call("turning(0)", x -> x.turning(0), 2));
        all.add(new Call("feed and sheet(1)", x -> x.feed(0, 0, 0, 0, 0) == 20 ? x.sheet(1) : 0, -10));
        all.add(new Call("feed and list(2)", x -> x.feed(5, 5, 0, 0, 0) == 20 ? is(x.list(2)) : 9, 0));
        return all;
    }

    private static List<Call> refusedByPortal() {
        List<Call> all = new ArrayList<>();
        all.add(none("joint(4, 3, 7)", x -> x.joint(4, 3, 7)));
        all.add(none("joint(6, 6, 0)", x -> x.joint(6, 6, 0)));
        all.add(none("bar(0, 2, 1, 1)", x -> x.bar(0, 2, 1, 1)));
        all.add(none("bar(1, 3, 1, 1)", x -> x.bar(1, 3, 1, 1)));
        all.add(none("bar(4, 4, 1, 1)", x -> x.bar(4, 4, 1, 1)));
        all.add(none("bar(4, 5, 1, 1)", x -> x.bar(4, 5, 1, 1)));
        all.add(no("pin(5, true)", x -> is(x.pin(5, true))));
        all.add(no("pin(0, false)", x -> is(x.pin(0, false))));
        all.add(no("pin(6, true)", x -> is(x.pin(6, true))));
        all.add(no("strength(3, 1, 1)", x -> is(x.strength(3, 1, 1))));
        all.add(no("load(0, 5, 1, 1)", x -> is(x.load(0, 5, 1, 1))));
        all.add(no("load(6, 0, 1, 1)", x -> is(x.load(6, 0, 1, 1))));
        all.add(no("group(3, 0)", x -> is(x.group(3, 0))));
        all.add(no("group(0, 3)", x -> is(x.group(0, 3))));
        all.add(none("sheet(5)", x -> x.sheet(5)));
        all.add(none("sheet(7)", x -> x.sheet(7)));
        all.add(none("falls(3)", x -> x.falls(3)));
        all.add(new Call("fall(3, 0)", x -> x.fall(3, 0), NO_TURN));
        all.add(new Call("fall(1, 0)", x -> x.fall(1, 0), NO_TURN));
        all.add(new Call("fall(0, 6)", x -> x.fall(0, 6), NO_TURN));
        all.add(none("only(1)", x -> x.only(1)));
        all.add(none("only(3)", x -> x.only(3)));
        all.add(none("worth(0, 3, 0)", x -> x.worth(0, 3, 0)));
        all.add(none("out(0, 3, 0)", x -> x.out(0, 3, 0)));
        all.add(none("rolls(0, 1, 32)", x -> x.rolls(0, 1, 32)));
        all.add(none("look(3, 0)", x -> x.look(3, 0)));
        all.add(new Call("place(5, 0)", x -> x.place(5, 0), -1000));
        all.add(new Call("metal(8, 0)", x -> x.metal(8, 0), -2));
        return all;
    }

    private static List<Call> usedUpByPortal() {
        List<Call> all = new ArrayList<>();
        all.add(new Call("bends(0, 1, 1)", x -> x.bends(0, 1, 1), 1));
        all.add(new Call("turning(0)", x -> x.turning(0), 1));
        all.add(new Call("list(2)", x -> is(x.list(2)), 0));
        all.add(new Call("sheet(3), behind another tape", x -> tape(x, 0x00010101, 0x01020101, 0x00020101, 0, 0) ? x.sheet(3) : 0, -19));
        all.add(new Call("sheet(1) of no JOINT", x -> tape(x, 0x05000000, 0, 0, 0, 0) ? x.sheet(1) : 0, -10));
        all.add(new Call("sheet(2) of one JOINT twice", x -> tape(x, 0x00010000, 0x01010000, 0, 0, 0) ? x.sheet(2) : 0, -15));
        all.add(new Call("list(5) not growing", x -> tape(x, 1, 2, 3, 4, 4) ? is(x.list(5)) : 9, 0));
        all.add(new Call("list(1) of 1001", x -> tape(x, 1001, 2, 3, 4, 4) ? is(x.list(1)) : 9, 0));
        all.add(new Call("list(1) of -1", x -> tape(x, -1, 2, 3, 4, 4) ? is(x.list(1)) : 9, 0));
        all.add(new Call("turning(0) of too far ones", x -> tape(x, 10001, 0, 0, 0, 0) ? x.turning(0) : 9, 1));
        all.add(new Call("turning(0) of none", x -> tape(x, 0, 0, 0, 0, 0) ? x.turning(0) : 9, 2));
        all.add(new Call("turning(3), of which LOOSE MOVES have WORK", x -> tape(x, 1, 1, 0, 0, 1) ? x.turning(3) : 9, 2));
        all.add(new Call("bends(0, 0, 1)", x -> tape(x, 0, 0, 0, 0, 0) ? x.bends(0, 0, 1) : 9, 0));
        return all;
    }

    /** Another tape of 40 bytes in the place of that which is there. */
    private static boolean tape(HingeFrames x, int a, int b, int c, int d, int e) {
        x.list(2);
        return x.feed(a, b, c, d, e) == 20 && x.feed(0, 0, 0, 0, 0) == 40;
    }

    private static List<Call> refusedByFull() {
        List<Call> all = new ArrayList<>();
        all.add(none("joint(6, 6, 0)", x -> x.joint(6, 6, 0)));
        all.add(none("bar(0, 1, 1, 1)", x -> x.bar(0, 1, 1, 1)));
        all.add(no("pin(14, true)", x -> is(x.pin(14, true))));
        all.add(no("pin(13, false)", x -> is(x.pin(13, false))));
        all.add(none("feed(0, 0, 0, 0, 0)", x -> x.feed(0, 0, 0, 0, 0)));
        all.add(none("feed(MIN, MAX, -1, 1, 7)", x -> x.feed(MIN, MAX, -1, 1, 7)));
        for (int n = 1; n <= 7; n++) {
            int bars = n;
            all.add(none("sheet(" + n + ")", x -> x.sheet(bars)));
        }
        all.add(new Call("fall(5, 14)", x -> x.fall(5, 14), NO_TURN));
        all.add(none("redo()", x -> x.redo()));
        all.add(none("bound(0)", x -> x.bound(0)));
        all.add(none("only(0)", x -> x.only(0)));
        return all;
    }

    private static List<Call> usedUpByFull() {
        List<Call> all = new ArrayList<>();
        all.add(new Call("bends(5, 1, 1)", x -> x.bends(5, 1, 1), 0));
        all.add(new Call("bends(5, 2, 1)", x -> x.bends(5, 2, 1), 1));
        all.add(new Call("turning(5)", x -> x.turning(5), 1));
        all.add(new Call("list(2) of 6 and -5", x -> is(x.list(2)), 0));
        return all;
    }
}
