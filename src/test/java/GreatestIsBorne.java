import java.math.BigInteger;
import java.util.ArrayList;
import java.util.Arrays;
import java.util.List;
import java.util.Random;

/**
 * "The greatest load that can be borne and the least fall shown to meet it": on frames by chance (with
 * fixed seeds) the greatest factor is sought for which bends within strength balance the load, without
 * any fall. It must be THE GREATEST; then those bends are told to bends(), and THE FALL to turning().
 * Arguments: how many frames, the first seed.
 */
public final class GreatestIsBorne {
    private static int wrong = 0;
    private static int borne = 0;
    private static int fell = 0;
    private static int none = 0;

    public static void main(String[] args) {
        int frames = args.length > 0 ? Integer.parseInt(args[0]) : 600;
        long first = args.length > 1 ? Long.parseLong(args[1]) : 1;
        for (long seed = first; seed < first + frames && wrong < 10; seed++) {
            checkFrame(seed);
        }
        System.out.println(frames + " frames, " + borne + " loads borne, " + fell + " falls told, " + none + " borne at all times, " + wrong + " wrong");
        if (frames >= 600 && (borne < 100 || fell < 100 || none < 100)) {
            say("too few to tell anything");
        }
        if (wrong != 0) {
            System.exit(1);
        }
    }

    private static void say(String what) {
        wrong++;
        System.out.println(what);
    }

    private static void due(String what, long got, long want) {
        if (got != want) {
            say(what + " answered " + got + ", due is " + want);
        }
    }

    private static void checkFrame(long seed) {
        HingeFrames x = frame(new Random(seed));
        Bench bench = new Bench(x);
        for (int c = 0; c < 3; c++) {
            String name = "frame " + seed + ", CASE " + c;
            Greatest sought = bench.greatest(c);
            if (sought == null) {
                none++;
                due(name + ": none", x.greatest(c, 0), -2);
                continue;
            }
            due(name + ": above", x.greatest(c, 0), sought.factor.n.longValueExact());
            due(name + ": below", x.greatest(c, 1), sought.factor.d.longValueExact());
            tellFall(name, x, c);
            tellBends(name, x, c, sought);
        }
    }

    /** The turns of THE FALL can be, and their BOUND is THE GREATEST. */
    private static void tellFall(String name, HingeFrames x, int c) {
        if (x.only(c) == HingeFrames.NONE) {
            return;
        }
        fell++;
        long[] turns = new long[2 * x.count(1)];
        for (int e = 0; e < turns.length; e++) {
            turns[e] = x.fall(c, e);
        }
        feed(x, turns);
        due(name + ": THE FALL told", x.turning(c), 0);
        due(name + ": BOUND above", x.bound(0), x.greatest(c, 0));
        due(name + ": BOUND below", x.bound(1), x.greatest(c, 1));
    }

    /** Strengths and bends are multiplied so that the bends are whole numbers, and undone again. */
    private static void tellBends(String name, HingeFrames x, int c, Greatest sought) {
        BigInteger all = BigInteger.ONE;
        for (Q bend : sought.bends) {
            all = all.multiply(bend.d).divide(all.gcd(bend.d));
        }
        Q factor = sought.factor.times(new Q(all, BigInteger.ONE));
        if (all.bitLength() > 9 || mostStrength(x) * all.intValue() > 1000 || factor.d.intValue() > 1000) {
            return;
        }
        borne++;
        int times = all.intValue();
        int bars = x.count(1);
        for (int b = 0; b < bars; b++) {
            x.strength(b, times * x.look(b, 2), times * x.look(b, 3));
        }
        long[] bends = new long[2 * bars];
        for (int e = 0; e < bends.length; e++) {
            bends[e] = sought.bends[e].times(new Q(all, BigInteger.ONE)).n.longValueExact();
        }
        int n = factor.n.intValueExact();
        int d = factor.d.intValueExact();
        due(name + ": all strengths times " + times, x.greatest(c, 0), n);
        feed(x, bends);
        due(name + ": bends told", x.bends(c, n, d), 0);
        feed(x, bends);
        due(name + ": bends told for more", x.bends(c, n + 1, d), 1);
        for (int b = 0; b < bars; b++) {
            x.undo();
        }
    }

    private static int mostStrength(HingeFrames x) {
        int most = 0;
        for (int b = 0; b < x.count(1); b++) {
            most = Math.max(most, Math.max(x.look(b, 2), x.look(b, 3)));
        }
        return most;
    }

    private static void feed(HingeFrames x, long[] numbers) {
        long[] row = Arrays.copyOf(numbers, (numbers.length + 4) / 5 * 5);
        for (int i = 0; i < row.length; i += 5) {
            x.feed((int) row[i], (int) row[i + 1], (int) row[i + 2], (int) row[i + 3], (int) row[i + 4]);
        }
    }

    /** JOINTS on a few rows and columns, so that BARS find their like; the first ones are held. */
    private static HingeFrames frame(Random r) {
        HingeFrames x = new HingeFrames();
        int[] columns = {r.nextInt(7), r.nextInt(7), r.nextInt(7)};
        int[] rows = {r.nextInt(7), r.nextInt(7), r.nextInt(7)};
        int some = 1 + r.nextInt(3);
        int supports = 1 + r.nextInt(3);
        for (int i = 0; i < 30 && x.count(0) < 7; i++) {
            int held = x.count(0) < supports ? (r.nextInt(3) == 0 ? 3 : 7) : (r.nextInt(12) == 0 ? r.nextInt(8) : 0);
            x.joint(columns[r.nextInt(3)], rows[r.nextInt(some)], held);
        }
        int joints = x.count(0);
        boolean[] tied = new boolean[7];
        for (int i = 0; i < 100 && x.count(1) < 7; i++) {
            int a = r.nextInt(joints);
            int b = r.nextInt(joints);
            if ((!tied[a] || !tied[b] || i > 60) && x.bar(a, b, r.nextInt(13), r.nextInt(13)) >= 0) {
                tied[a] = true;
                tied[b] = true;
            }
        }
        for (int e = 0; e < 2 * x.count(1); e++) {
            if (r.nextInt(10) == 0) {
                x.pin(e, true);
            }
        }
        for (int j = 0; j < joints; j++) {
            for (int c = 0; c < 3; c++) {
                if (r.nextInt(3) == 0) {
                    x.load(c, j, c == 0 ? 0 : r.nextInt(21) - 10, c == 1 ? 0 : r.nextInt(21) - 10);
                }
            }
        }
        return x;
    }

    /** A fraction without a common divisor, its lower part above 0. */
    record Q(BigInteger n, BigInteger d) {
        static final Q ZERO = of(0);
        static final Q ONE = of(1);

        static Q of(long n) {
            return new Q(BigInteger.valueOf(n), BigInteger.ONE);
        }

        private static Q least(BigInteger n, BigInteger d) {
            BigInteger g = n.gcd(d);
            g = d.signum() < 0 ? g.negate() : g;
            return new Q(n.divide(g), d.divide(g));
        }

        Q minus(Q o) {
            return least(n.multiply(o.d).subtract(o.n.multiply(d)), d.multiply(o.d));
        }

        Q plus(Q o) {
            return minus(o.turned());
        }

        Q turned() {
            return new Q(n.negate(), d);
        }

        Q times(Q o) {
            return least(n.multiply(o.n), d.multiply(o.d));
        }

        Q over(Q o) {
            return least(n.multiply(o.d), d.multiply(o.n));
        }

        int sign() {
            return n.signum();
        }

        int compare(Q o) {
            return minus(o).sign();
        }
    }

    /** The greatest factor, and bends of all ENDS that bear it. */
    record Greatest(Q factor, Q[] bends) {
    }

    private static Q[] zeros(int n) {
        Q[] row = new Q[n];
        Arrays.fill(row, Q.ZERO);
        return row;
    }

    private static Q dot(Q[] a, Q[] b) {
        Q sum = Q.ZERO;
        for (int i = 0; i < a.length; i++) {
            if (a[i].sign() != 0 && b[i].sign() != 0) {
                sum = sum.plus(a[i].times(b[i]));
            }
        }
        return sum;
    }

    /** row less so much of by that nothing is left at that place, where by has 1. */
    private static Q[] without(Q[] row, Q[] by, int place) {
        Q[] left = row.clone();
        for (int i = 0; i < row.length; i++) {
            if (by[i].sign() != 0) {
                left[i] = row[i].minus(row[place].times(by[i]));
            }
        }
        return left;
    }

    private static Q[] through(Q[] row, Q by) {
        Q[] less = row.clone();
        for (int i = 0; i < row.length; i++) {
            less[i] = row[i].over(by);
        }
        return less;
    }

    /** Rows of n numbers by which all rows can be summed that each of the equations makes 0. */
    private static List<Q[]> solutions(List<Q[]> equations, int n) {
        List<Q[]> left = new ArrayList<>(equations);
        Q[][] of = new Q[n][];
        for (int k = 0; k < n; k++) {
            int place = k;
            Q[] found = left.stream().filter(row -> row[place].sign() != 0).findFirst().orElse(null);
            if (found == null) {
                continue;
            }
            left.remove(found);
            Q[] by = through(found, found[k]);
            left.replaceAll(row -> without(row, by, place));
            for (int i = 0; i < k; i++) {
                of[i] = of[i] == null ? null : without(of[i], by, k);
            }
            of[k] = by;
        }
        List<Q[]> all = new ArrayList<>();
        for (int k = 0; k < n; k++) {
            if (of[k] == null) {
                Q[] row = zeros(n);
                for (int i = 0; i < n; i++) {
                    row[i] = i == k ? Q.ONE : of[i] == null ? Q.ZERO : of[i][k].turned();
                }
                all.add(row);
            }
        }
        return all;
    }

    /** The frame as the class tells it by place() and look(); u, v, t of JOINT j are 3 j, 3 j + 1, 3 j + 2. */
    private static final class Bench {
        private final HingeFrames x;
        private final int size;
        private final int ends;
        private final List<Q[]> held = new ArrayList<>();
        private final Q[][] turns;

        Bench(HingeFrames x) {
            this.x = x;
            size = 3 * x.count(0);
            ends = 2 * x.count(1);
            turns = new Q[ends][];
            for (int k = 0; k < size; k++) {
                if ((x.place(k / 3, 2) >> k % 3 & 1) != 0) {
                    Q[] row = zeros(size);
                    row[k] = Q.ONE;
                    held.add(row);
                }
            }
            for (int b = 0; b < x.count(1); b++) {
                addBar(b);
            }
        }

        private void addBar(int b) {
            int first = x.look(b, 0);
            int second = x.look(b, 1);
            boolean along = x.place(first, 1) == x.place(second, 1);
            Q[] keeps = zeros(size);
            keeps[3 * first + (along ? 0 : 1)] = Q.ONE;
            keeps[3 * second + (along ? 0 : 1)] = Q.ONE.turned();
            held.add(keeps);
            boolean forth = x.place(second, 0) > x.place(first, 0) || x.place(second, 1) > x.place(first, 1);
            Q part = Q.of(forth == along ? 1 : -1).over(Q.of(x.look(b, 5)));
            Q[] lean = zeros(size);
            lean[3 * second + (along ? 1 : 0)] = part;
            lean[3 * first + (along ? 1 : 0)] = part.turned();
            for (int e = 2 * b; e < 2 * b + 2; e++) {
                turns[e] = zeros(size);
                turns[e][3 * x.look(b, e % 2) + 2] = Q.ONE;
                for (int k = 0; k < size; k++) {
                    turns[e][k] = turns[e][k].minus(lean[k]);
                }
            }
        }

        private Q[] loads(int c) {
            Q[] row = zeros(size);
            for (int j = 0; j < x.count(0); j++) {
                row[3 * j] = Q.of(x.place(j, 10 + 2 * c));
                row[3 * j + 1] = Q.of(x.place(j, 11 + 2 * c));
            }
            return row;
        }

        /** Bends of all ENDS and the factor, behind them, that balance for all MOVES: sums of some rows. */
        private List<Q[]> balanced(int c) {
            List<Q[]> equations = new ArrayList<>();
            Q[] loads = loads(c);
            for (Q[] move : solutions(held, size)) {
                Q[] row = zeros(ends + 1);
                for (int e = 0; e < ends; e++) {
                    row[e] = dot(turns[e], move);
                }
                row[ends] = dot(loads, move).turned();
                equations.add(row);
            }
            for (int e = 0; e < ends; e++) {
                if (x.look(e / 2, 6 + e % 2) == 1) {
                    Q[] row = zeros(ends + 1);
                    row[e] = Q.ONE;
                    equations.add(row);
                }
            }
            return solutions(equations, ends + 1);
        }

        Greatest greatest(int c) {
            List<Q[]> rows = balanced(c);
            int n = rows.size();
            Q[][] table = new Q[2 * ends + 1][];
            for (int i = 0; i <= 2 * ends; i++) {
                table[i] = zeros(2 * n + 1);
                Q way = i % 2 == 0 ? Q.ONE : Q.ONE.turned();
                for (int k = 0; k < n; k++) {
                    table[i][k] = rows.get(k)[i / 2].times(i == 2 * ends ? way.turned() : way);
                    table[i][n + k] = table[i][k].turned();
                }
                if (i < 2 * ends) {
                    table[i][2 * n] = Q.of(x.look(i / 4, 2 + i % 2));
                }
            }
            Q[] by = new Simplex(table).most();
            if (by == null) {
                return null;
            }
            Q[] bends = zeros(ends + 1);
            for (int e = 0; e <= ends; e++) {
                for (int k = 0; k < n; k++) {
                    bends[e] = bends[e].plus(rows.get(k)[e].times(by[k].minus(by[n + k])));
                }
            }
            return new Greatest(bends[ends], Arrays.copyOf(bends, ends));
        }
    }

    /** The most of a sum of numbers from 0 on, each row but the last at most its last number; by Bland's rule. */
    private static final class Simplex {
        private final Q[][] table;
        private final int rows;
        private final int columns;
        private final int[] inside;
        private final int[] outside;

        Simplex(Q[][] table) {
            this.table = table;
            rows = table.length - 1;
            columns = table[0].length - 1;
            inside = new int[rows];
            outside = new int[columns];
            for (int k = 0; k < columns; k++) {
                outside[k] = k;
            }
            for (int i = 0; i < rows; i++) {
                inside[i] = columns + i;
            }
        }

        /** The numbers; null: the sum has no end. */
        Q[] most() {
            for (int k = entering(); k >= 0; k = entering()) {
                int i = leaving(k);
                if (i < 0) {
                    return null;
                }
                change(i, k);
            }
            Q[] numbers = zeros(columns);
            for (int i = 0; i < rows; i++) {
                if (inside[i] < columns) {
                    numbers[inside[i]] = table[i][columns];
                }
            }
            return numbers;
        }

        private int entering() {
            int found = -1;
            for (int k = 0; k < columns; k++) {
                if (table[rows][k].sign() < 0 && (found < 0 || outside[k] < outside[found])) {
                    found = k;
                }
            }
            return found;
        }

        private int leaving(int k) {
            int found = -1;
            Q least = null;
            for (int i = 0; i < rows; i++) {
                if (table[i][k].sign() > 0) {
                    Q ratio = table[i][columns].over(table[i][k]);
                    int less = least == null ? -1 : ratio.compare(least);
                    if (less < 0 || less == 0 && inside[i] < inside[found]) {
                        found = i;
                        least = ratio;
                    }
                }
            }
            return found;
        }

        private void change(int i, int k) {
            Q lead = table[i][k];
            Q[] by = through(table[i], lead);
            for (int row = 0; row <= rows; row++) {
                Q there = table[row][k];
                if (row != i && there.sign() != 0) {
                    table[row] = without(table[row], by, k);
                    table[row][k] = there.over(lead).turned();
                }
            }
            by[k] = Q.ONE.over(lead);
            table[i] = by;
            int goes = inside[i];
            inside[i] = outside[k];
            outside[k] = goes;
        }
    }
}
