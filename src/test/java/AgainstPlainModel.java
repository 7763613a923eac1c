import java.util.ArrayList;
import java.util.Arrays;
import java.util.HashMap;
import java.util.List;
import java.util.Map;
import java.util.Random;

/**
 * Runs of calls by chance (with fixed seeds) on HingeFrames and on a model that follows the
 * document's words one by one, with fractions and with all sets of ENDS tried; every answer must be alike.
 * Arguments: how many runs, the first seed.
 */
public final class AgainstPlainModel {
    private static int wrong = 0;

    public static void main(String[] args) {
        int runs = args.length > 0 ? Integer.parseInt(args[0]) : 300;
        long first = args.length > 1 ? Long.parseLong(args[1]) : 1;
        long calls = 0;
        for (long seed = first; seed < first + runs && wrong < 10; seed++) {
            calls += new Run(seed).play();
        }
        System.out.println(calls + " calls in " + runs + " runs, " + wrong + " wrong");
        if (wrong != 0) {
            System.exit(1);
        }
    }

    /** An exact fraction; throws if a number grows beyond long. */
    record Frac(long n, long d) {
        static final Frac ZERO = new Frac(0, 1);

        static Frac of(long n, long d) {
            if (n == 0) {
                return ZERO;
            }
            long g = gcd(n, d);
            return d < 0 ? new Frac(-n / g, -d / g) : new Frac(n / g, d / g);
        }

        static long gcd(long a, long b) {
            return b == 0 ? Math.abs(a) : gcd(b, a % b);
        }

        Frac plus(Frac o) {
            return of(Math.addExact(Math.multiplyExact(n, o.d), Math.multiplyExact(o.n, d)), Math.multiplyExact(d, o.d));
        }

        Frac minus(Frac o) {
            return plus(new Frac(-o.n, o.d));
        }

        Frac times(Frac o) {
            long g = gcd(n, o.d);
            long h = gcd(o.n, d);
            g = g == 0 ? 1 : g;
            h = h == 0 ? 1 : h;
            return of(Math.multiplyExact(n / g, o.n / h), Math.multiplyExact(d / h, o.d / g));
        }

        Frac over(Frac o) {
            return times(of(o.d, o.n));
        }

        int compare(Frac o) {
            return Long.signum(minus(o).n);
        }

        boolean isZero() {
            return n == 0;
        }
    }

    static Frac[] zeros(int n) {
        Frac[] row = new Frac[n];
        Arrays.fill(row, Frac.ZERO);
        return row;
    }

    static Frac dot(Frac[] a, Frac[] b) {
        Frac sum = Frac.ZERO;
        for (int i = 0; i < a.length; i++) {
            if (!a[i].isZero() && !b[i].isZero()) {
                sum = sum.plus(a[i].times(b[i]));
            }
        }
        return sum;
    }

    /** A basis of all rows of n numbers that each of the equations sends to 0. */
    static List<Frac[]> kernel(List<Frac[]> equations, int n) {
        List<Frac[]> m = new ArrayList<>();
        for (Frac[] e : equations) {
            m.add(e.clone());
        }
        int[] pivotOf = new int[n];
        Arrays.fill(pivotOf, -1);
        int rank = 0;
        for (int k = 0; k < n && rank < m.size(); k++) {
            int found = -1;
            for (int i = rank; i < m.size() && found < 0; i++) {
                if (!m.get(i)[k].isZero()) {
                    found = i;
                }
            }
            if (found < 0) {
                continue;
            }
            Frac[] by = m.get(found);
            m.set(found, m.get(rank));
            m.set(rank, by);
            Frac lead = by[k];
            for (int i = 0; i < n; i++) {
                if (!by[i].isZero()) {
                    by[i] = by[i].over(lead);
                }
            }
            for (int i = 0; i < m.size(); i++) {
                Frac f = m.get(i)[k];
                if (i != rank && !f.isZero()) {
                    for (int j = 0; j < n; j++) {
                        if (!by[j].isZero()) {
                            m.get(i)[j] = m.get(i)[j].minus(f.times(by[j]));
                        }
                    }
                }
            }
            pivotOf[k] = rank++;
        }
        List<Frac[]> basis = new ArrayList<>();
        for (int k = 0; k < n; k++) {
            if (pivotOf[k] < 0) {
                Frac[] v = zeros(n);
                v[k] = Frac.of(1, 1);
                for (int i = 0; i < n; i++) {
                    if (pivotOf[i] >= 0) {
                        v[i] = Frac.ZERO.minus(m.get(pivotOf[i])[k]);
                    }
                }
                basis.add(v);
            }
        }
        return basis;
    }

    static long[] primitive(Frac[] v) {
        long lcm = 1;
        for (Frac f : v) {
            lcm = Math.multiplyExact(lcm, f.d / Frac.gcd(lcm, f.d));
        }
        long g = 0;
        long[] w = new long[v.length];
        for (int i = 0; i < v.length; i++) {
            w[i] = Math.multiplyExact(v[i].n, lcm / v[i].d);
            g = Frac.gcd(w[i], g);
        }
        for (int i = 0; i < v.length && g > 1; i++) {
            w[i] /= g;
        }
        return w;
    }

    static final class State implements Cloneable {
        List<int[]> joints = new ArrayList<>();
        List<int[]> bars = new ArrayList<>();
        boolean[] pinned = new boolean[14];
        int[][] loads = new int[6][14];

        State copy() {
            State s = new State();
            for (int[] j : joints) {
                s.joints.add(j.clone());
            }
            for (int[] b : bars) {
                s.bars.add(b.clone());
            }
            s.pinned = pinned.clone();
            for (int c = 0; c < 6; c++) {
                s.loads[c] = loads[c].clone();
            }
            return s;
        }

        String shape() {
            StringBuilder sb = new StringBuilder();
            for (int[] j : joints) {
                sb.append(Arrays.toString(j));
            }
            for (int[] b : bars) {
                sb.append(b[0]).append('-').append(b[1]).append(' ');
            }
            for (int e = 0; e < 2 * bars.size(); e++) {
                sb.append(pinned[e] ? 'p' : '.');
            }
            return sb.toString();
        }

        boolean canJoin(int a, int b) {
            if (a < 0 || b < 0 || a >= joints.size() || b >= joints.size() || a == b) {
                return false;
            }
            return joints.get(a)[0] == joints.get(b)[0] || joints.get(a)[1] == joints.get(b)[1];
        }

        int length(int[] b) {
            int[] p = joints.get(b[0]);
            int[] q = joints.get(b[1]);
            return Math.abs(p[0] - q[0]) + Math.abs(p[1] - q[1]);
        }
    }

    /** A PLAIN FALL with MOVES that bring it. */
    record Plain(long[] turns, int mask, Frac[] moves) {
    }

    /** What the MOVES of one shape are, by kernels of the document's own conditions. */
    static final class Analysis {
        final int n;
        final List<Frac[]> moves;
        final List<Frac[]> loose;
        final List<Integer> ends = new ArrayList<>();
        final List<Frac[]> turnRows = new ArrayList<>();
        final int rank;
        private List<Plain> plain;

        Analysis(State s, int without) {
            n = 3 * s.joints.size();
            List<Frac[]> eq = new ArrayList<>();
            for (int j = 0; j < s.joints.size(); j++) {
                for (int k = 0; k < 3; k++) {
                    if ((s.joints.get(j)[2] >> k & 1) != 0) {
                        Frac[] row = zeros(n);
                        row[3 * j + k] = Frac.of(1, 1);
                        eq.add(row);
                    }
                }
            }
            for (int b = 0; b < s.bars.size(); b++) {
                if (b == without) {
                    continue;
                }
                int[] bar = s.bars.get(b);
                int[] p = s.joints.get(bar[0]);
                int[] q = s.joints.get(bar[1]);
                boolean along = p[1] == q[1];
                Frac[] row = zeros(n);
                row[3 * bar[0] + (along ? 0 : 1)] = Frac.of(1, 1);
                row[3 * bar[1] + (along ? 0 : 1)] = Frac.of(-1, 1);
                eq.add(row);
                Frac[] lean = zeros(n);
                int len = s.length(bar);
                if (along) {
                    int sg = q[0] > p[0] ? 1 : -1;
                    lean[3 * bar[1] + 1] = Frac.of(sg, len);
                    lean[3 * bar[0] + 1] = Frac.of(-sg, len);
                } else {
                    int sg = q[1] > p[1] ? 1 : -1;
                    lean[3 * bar[0]] = Frac.of(sg, len);
                    lean[3 * bar[1]] = Frac.of(-sg, len);
                }
                for (int k = 0; k < 2; k++) {
                    if (!s.pinned[2 * b + k]) {
                        Frac[] turn = zeros(n);
                        turn[3 * bar[k] + 2] = Frac.of(1, 1);
                        for (int i = 0; i < n; i++) {
                            turn[i] = turn[i].minus(lean[i]);
                        }
                        ends.add(2 * b + k);
                        turnRows.add(turn);
                    }
                }
            }
            moves = kernel(eq, n);
            List<Frac[]> more = new ArrayList<>(eq);
            more.addAll(turnRows);
            loose = kernel(more, n);
            rank = moves.size() - loose.size();
            equations = eq;
        }

        private final List<Frac[]> equations;

        /** For all sets of ENDS: whether the TURNS at these ENDS alone are multiples of one that turns at all of them. */
        List<Plain> plain() {
            if (plain != null) {
                return plain;
            }
            plain = new ArrayList<>();
            int m = moves.size();
            List<Frac[]> inMoves = new ArrayList<>();
            for (Frac[] t : turnRows) {
                Frac[] row = zeros(m);
                for (int k = 0; k < m; k++) {
                    row[k] = dot(t, moves.get(k));
                }
                inMoves.add(row);
            }
            int e = ends.size();
            for (int set = 1; set < 1 << e; set++) {
                if (Integer.bitCount(set) > e - rank + 1 || hasPlainInside(set)) {
                    continue;
                }
                List<Frac[]> still = new ArrayList<>();
                for (int i = 0; i < e; i++) {
                    if ((set >> i & 1) == 0) {
                        still.add(inMoves.get(i));
                    }
                }
                for (Frac[] v : kernel(still, m)) {
                    Frac[] turns = new Frac[e];
                    int mask = 0;
                    for (int i = 0; i < e; i++) {
                        turns[i] = dot(inMoves.get(i), v);
                        mask |= turns[i].isZero() ? 0 : 1 << i;
                    }
                    if (mask == set) {
                        addPlain(turns, mask, v);
                        break;
                    }
                }
            }
            return plain;
        }

        /** Sets come with all their subsets first, so one that holds no plain one turns at all of its ENDS or at none. */
        private boolean hasPlainInside(int set) {
            for (Plain p : plain) {
                if ((p.mask & set) == p.mask) {
                    return true;
                }
            }
            return false;
        }

        private void addPlain(Frac[] turns, int mask, Frac[] v) {
            long[] whole = primitive(turns);
            int at = Integer.numberOfTrailingZeros(mask);
            Frac factor = Frac.of(whole[at], 1).over(turns[at]);
            Frac[] move = zeros(n);
            for (int k = 0; k < v.length; k++) {
                for (int i = 0; i < n; i++) {
                    move[i] = move[i].plus(moves.get(k)[i].times(v[k]).times(factor));
                }
            }
            plain.add(new Plain(whole, mask, move));
        }

        Frac[] loadRow(int[] loads) {
            Frac[] row = zeros(n);
            for (int j = 0; j < n / 3; j++) {
                row[3 * j] = Frac.of(loads[2 * j], 1);
                row[3 * j + 1] = Frac.of(loads[2 * j + 1], 1);
            }
            return row;
        }

        boolean looseWork(int[] loads) {
            Frac[] row = loadRow(loads);
            for (Frac[] v : loose) {
                if (!dot(row, v).isZero()) {
                    return true;
                }
            }
            return false;
        }
    }

    static final class Answer {
        Frac greatest;
        long[] fall;
        int alike;
    }

    static final class Model {
        State now = new State();
        final List<State> back = new ArrayList<>();
        final List<State> ahead = new ArrayList<>();
        final List<Integer> tape = new ArrayList<>();
        int[] list = new int[0];
        Frac bound;
        static final Map<String, Analysis> KNOWN = new HashMap<>();

        static Analysis analysis(State s, int without) {
            if (KNOWN.size() > 300) {
                KNOWN.clear();
            }
            return KNOWN.computeIfAbsent(s.shape() + "/" + without, k -> new Analysis(s, without));
        }

        State act() {
            back.add(now);
            if (back.size() > 60) {
                back.remove(0);
            }
            ahead.clear();
            now = now.copy();
            return now;
        }

        int joint(int x, int y, int held) {
            if (x < 0 || x > 6 || y < 0 || y > 6 || held < 0 || held > 7 || now.joints.size() == 7) {
                return -1;
            }
            for (int[] j : now.joints) {
                if (j[0] == x && j[1] == y) {
                    return -1;
                }
            }
            act().joints.add(new int[] {x, y, held});
            return now.joints.size() - 1;
        }

        static boolean strong(int s) {
            return s >= 0 && s <= 1000;
        }

        int bar(int a, int b, int p, int q) {
            if (!now.canJoin(a, b) || !strong(p) || !strong(q) || now.bars.size() == 7) {
                return -1;
            }
            act().bars.add(new int[] {a, b, p, q, 0});
            return now.bars.size() - 1;
        }

        boolean hasBar(int b) {
            return b >= 0 && b < now.bars.size();
        }

        int pin(int e, boolean is) {
            if (e < 0 || e >= 2 * now.bars.size() || now.pinned[e] == is) {
                return 0;
            }
            act().pinned[e] = is;
            return 1;
        }

        int strength(int b, int p, int q) {
            if (!hasBar(b) || !strong(p) || !strong(q)) {
                return 0;
            }
            act().bars.get(b)[2] = p;
            now.bars.get(b)[3] = q;
            return 1;
        }

        static boolean heavy(int x) {
            return x < -100 || x > 100;
        }

        int load(int c, int j, int x, int y) {
            if (c < 0 || c > 5 || j < 0 || j >= now.joints.size() || heavy(x) || heavy(y)) {
                return 0;
            }
            act().loads[c][2 * j] = x;
            now.loads[c][2 * j + 1] = y;
            return 1;
        }

        int group(int b, int g) {
            if (!hasBar(b) || g < 0 || g > 2) {
                return 0;
            }
            act().bars.get(b)[4] = g;
            return 1;
        }

        int feed(int... words) {
            if (tape.size() + 20 > 200) {
                return -1;
            }
            for (int w : words) {
                for (int k = 24; k >= 0; k -= 8) {
                    tape.add(w >> k & 255);
                }
            }
            return tape.size();
        }

        int word(int i) {
            int w = 0;
            for (int k = 0; k < 4; k++) {
                w = w * 256 + tape.get(4 * i + k);
            }
            return w;
        }

        int sheet(int n) {
            if (n < 1 || n > 7 || now.bars.size() + n > 7 || tape.size() < 4 * n) {
                return -1;
            }
            List<Integer> t = new ArrayList<>(tape);
            tape.clear();
            for (int i = 0; i < n; i++) {
                if (t.get(4 * i) >= now.joints.size()) {
                    return -10 - 4 * i;
                }
                if (!now.canJoin(t.get(4 * i), t.get(4 * i + 1))) {
                    return -10 - 4 * i - 1;
                }
            }
            act();
            for (int i = 0; i < n; i++) {
                now.bars.add(new int[] {t.get(4 * i), t.get(4 * i + 1), t.get(4 * i + 2), t.get(4 * i + 3), 0});
            }
            return now.bars.size();
        }

        int free(int what) {
            Analysis a = analysis(now, -1);
            switch (what) {
                case 0: return a.ends.size() - a.rank;
                case 1: return a.loose.size();
                case 2: return a.rank;
                default: return -1;
            }
        }

        int falls(int c) {
            Analysis a = analysis(now, -1);
            if (c == -1) {
                return 2 * a.plain().size();
            }
            if (c < 0 || c > 5 || a.looseWork(now.loads[c])) {
                return -1;
            }
            int k = 0;
            for (Plain p : a.plain()) {
                int s = Long.signum(dot(a.loadRow(now.loads[c]), p.moves).n);
                k += s > 0 ? 1 : 0;
                k += -s > 0 ? 1 : 0;
            }
            return k;
        }

        static Frac bears(Analysis a, long[] turns, List<int[]> bars) {
            long sum = 0;
            for (int i = 0; i < turns.length; i++) {
                int[] b = bars.get(a.ends.get(i) / 2);
                sum += turns[i] > 0 ? turns[i] * b[2] : -turns[i] * b[3];
            }
            return Frac.of(sum, 1);
        }

        static boolean before(long[] a, int maskA, long[] b, int maskB) {
            if (Integer.bitCount(maskA) != Integer.bitCount(maskB)) {
                return Integer.bitCount(maskA) < Integer.bitCount(maskB);
            }
            if (maskA != maskB) {
                return maskA < maskB;
            }
            return Arrays.compare(a, b) < 0;
        }

        /** Bars may be other ones than the state's, with other strengths. */
        static Answer seek(Analysis a, int[] loads, List<int[]> bars) {
            Answer answer = new Answer();
            if (a.looseWork(loads)) {
                answer.greatest = Frac.ZERO;
                return answer;
            }
            int mask = 0;
            Frac[] row = a.loadRow(loads);
            for (Plain p : a.plain()) {
                Frac work = dot(row, p.moves);
                for (int way = -1; way <= 1; way += 2) {
                    Frac w = work.times(Frac.of(way, 1));
                    if (w.n <= 0) {
                        continue;
                    }
                    long[] turns = new long[p.turns.length];
                    int real = 0;
                    for (int i = 0; i < turns.length; i++) {
                        turns[i] = way * p.turns[i];
                        real |= turns[i] != 0 ? 1 << a.ends.get(i) : 0;
                    }
                    Frac f = bears(a, turns, bars).over(w);
                    int cmp = answer.greatest == null ? -1 : f.compare(answer.greatest);
                    if (cmp < 0) {
                        answer.alike = 0;
                    }
                    if (cmp <= 0) {
                        answer.alike++;
                        if (cmp < 0 || before(turns, real, answer.fall, mask)) {
                            answer.greatest = f;
                            answer.fall = turns;
                            mask = real;
                        }
                    }
                }
            }
            return answer;
        }

        static long part(Frac f, int what) {
            return f == null ? -2 : what == 0 ? f.n : f.d;
        }

        static boolean isCase(int c) {
            return c >= 0 && c < 6;
        }

        long greatest(int c, int what) {
            if (!isCase(c) || what < 0 || what > 1) {
                return -1;
            }
            return part(seek(analysis(now, -1), now.loads[c], now.bars).greatest, what);
        }

        long fall(int c, int e) {
            if (!isCase(c) || e < 0 || e >= 2 * now.bars.size()) {
                return -1000000000000L;
            }
            Analysis a = analysis(now, -1);
            long[] f = seek(a, now.loads[c], now.bars).fall;
            if (f == null) {
                return -1000000000000L;
            }
            return a.ends.contains(e) ? f[a.ends.indexOf(e)] : 0;
        }

        int only(int c) {
            if (!isCase(c)) {
                return -1;
            }
            Answer a = seek(analysis(now, -1), now.loads[c], now.bars);
            return a.fall == null ? -1 : a.alike == 1 ? 1 : 0;
        }

        long worth(int c, int b, int what) {
            if (!isCase(c) || !hasBar(b) || what < 0 || what > 1) {
                return -1;
            }
            State s = now.copy();
            s.bars.get(b)[2]++;
            s.bars.get(b)[3]++;
            return part(seek(analysis(now, -1), now.loads[c], s.bars).greatest, what);
        }

        int bends(int c, int n, int d) {
            if (!isCase(c) || Math.abs((long) n) > 1000000 || d < 1 || d > 1000 || tape.size() < 8 * now.bars.size()) {
                return -1;
            }
            int[] w = new int[2 * now.bars.size()];
            for (int e = 0; e < w.length; e++) {
                w[e] = word(e);
            }
            tape.clear();
            Analysis a = analysis(now, -1);
            for (int e = 0; e < w.length; e++) {
                if (now.pinned[e] && w[e] != 0) {
                    return 1;
                }
            }
            Frac[] row = a.loadRow(now.loads[c]);
            for (Frac[] v : a.moves) {
                Frac sum = Frac.ZERO;
                for (int i = 0; i < a.ends.size(); i++) {
                    sum = sum.plus(Frac.of(w[a.ends.get(i)], 1).times(dot(a.turnRows.get(i), v)));
                }
                if (sum.compare(dot(row, v).times(Frac.of(n, d))) != 0) {
                    return 1;
                }
            }
            for (int e = 0; e < w.length; e++) {
                if (w[e] > now.bars.get(e / 2)[2] || w[e] < -now.bars.get(e / 2)[3]) {
                    return 2;
                }
            }
            return 0;
        }

        int turning(int c) {
            if (!isCase(c) || tape.size() < 8 * now.bars.size()) {
                return -1;
            }
            int[] w = new int[2 * now.bars.size()];
            for (int e = 0; e < w.length; e++) {
                w[e] = word(e);
            }
            tape.clear();
            Analysis a = analysis(now, -1);
            for (int e = 0; e < w.length; e++) {
                if (now.pinned[e] && w[e] != 0 || w[e] < -10000 || w[e] > 10000) {
                    return 1;
                }
            }
            Frac[] move = moveOf(a, w);
            if (move == null) {
                return 1;
            }
            if (a.looseWork(now.loads[c])) {
                return 2;
            }
            Frac work = dot(a.loadRow(now.loads[c]), move);
            if (work.n <= 0) {
                return 2;
            }
            long[] turns = new long[a.ends.size()];
            for (int i = 0; i < turns.length; i++) {
                turns[i] = w[a.ends.get(i)];
            }
            bound = bears(a, turns, now.bars).over(work);
            return 0;
        }

        /** MOVES (and a factor behind them, that is not 0) whose TURNS are the factor times those that are told. */
        static Frac[] moveOf(Analysis a, int[] w) {
            List<Frac[]> eq = new ArrayList<>();
            for (Frac[] e : a.equations) {
                eq.add(Arrays.copyOf(e, a.n + 1));
                eq.get(eq.size() - 1)[a.n] = Frac.ZERO;
            }
            for (int i = 0; i < a.ends.size(); i++) {
                Frac[] t = Arrays.copyOf(a.turnRows.get(i), a.n + 1);
                t[a.n] = Frac.of(-w[a.ends.get(i)], 1);
                eq.add(t);
            }
            for (Frac[] v : kernel(eq, a.n + 1)) {
                if (!v[a.n].isZero()) {
                    Frac[] move = new Frac[a.n];
                    for (int i = 0; i < a.n; i++) {
                        move[i] = v[i].over(v[a.n]);
                    }
                    return move;
                }
            }
            return null;
        }

        long bound(int what) {
            return bound == null || what < 0 || what > 1 ? -1 : part(bound, what);
        }

        int rolls(int x, int y, int set) {
            if (heavy(x) || heavy(y) || set < 1 || set >= 1 << now.joints.size()) {
                return -1;
            }
            Frac least = null;
            int at = -2;
            for (int j = 0; j < 7; j++) {
                if ((set >> j & 1) != 0) {
                    int[] loads = new int[14];
                    loads[2 * j] = x;
                    loads[2 * j + 1] = y;
                    Frac f = seek(analysis(now, -1), loads, now.bars).greatest;
                    if (f != null && (least == null || f.compare(least) < 0)) {
                        least = f;
                        at = j;
                    }
                }
            }
            return at;
        }

        long out(int c, int b, int what) {
            if (!isCase(c) || !hasBar(b) || what < 0 || what > 1) {
                return -1;
            }
            return part(seek(analysis(now, b), now.loads[c], now.bars).greatest, what);
        }

        int list(int n) {
            if (n < 1 || n > 6 || tape.size() < 4 * n) {
                return 0;
            }
            int[] l = new int[n];
            boolean ok = true;
            for (int i = 0; i < n; i++) {
                l[i] = word(i);
                ok = ok && strong(l[i]) && (i == 0 || l[i] > l[i - 1]);
            }
            tape.clear();
            if (ok) {
                list = l;
            }
            return ok ? 1 : 0;
        }

        long metal(int cases, int what) {
            if (cases < 1 || cases > 63 || what < -1 || what > 2 || list.length == 0) {
                return -1;
            }
            boolean[] has = new boolean[3];
            for (int[] b : now.bars) {
                has[b[4]] = true;
            }
            long best = Long.MAX_VALUE;
            int[] chosen = null;
            int k = list.length;
            for (int i = 0; i < (has[0] ? k : 1); i++) {
                for (int j = 0; j < (has[1] ? k : 1); j++) {
                    for (int l = 0; l < (has[2] ? k : 1); l++) {
                        int[] s = {list[i], list[j], list[l]};
                        State t = now.copy();
                        long cost = 0;
                        for (int[] b : t.bars) {
                            b[2] = s[b[4]];
                            b[3] = s[b[4]];
                            cost += (long) t.length(b) * s[b[4]];
                        }
                        if (cost < best && bearsAll(t, cases)) {
                            best = cost;
                            chosen = s;
                        }
                    }
                }
            }
            if (chosen == null) {
                return -2;
            }
            return what == -1 ? best : chosen[what];
        }

        static boolean bearsAll(State t, int cases) {
            for (int c = 0; c < 6; c++) {
                if ((cases >> c & 1) != 0) {
                    Frac f = seek(analysis(t, -1), t.loads[c], t.bars).greatest;
                    if (f != null && f.compare(Frac.of(1, 1)) < 0) {
                        return false;
                    }
                }
            }
            return true;
        }

        int undo() {
            if (back.isEmpty()) {
                return -1;
            }
            ahead.add(now);
            now = back.remove(back.size() - 1);
            return back.size();
        }

        int redo() {
            if (ahead.isEmpty()) {
                return -1;
            }
            back.add(now);
            now = ahead.remove(ahead.size() - 1);
            return ahead.size();
        }

        int look(int b, int what) {
            if (!hasBar(b) || what < 0 || what > 7) {
                return -1;
            }
            if (what < 5) {
                return now.bars.get(b)[what];
            }
            return what == 5 ? now.length(now.bars.get(b)) : now.pinned[2 * b + what - 6] ? 1 : 0;
        }

        int place(int j, int what) {
            if (j < 0 || j >= now.joints.size() || what < 0 || what > 21 || what > 2 && what < 10) {
                return -1000;
            }
            return what < 3 ? now.joints.get(j)[what] : now.loads[(what - 10) / 2][2 * j + what % 2];
        }

        int count(int what) {
            switch (what) {
                case 0: return now.joints.size();
                case 1: return now.bars.size();
                case 2: return tape.size();
                case 3: return back.size();
                case 4: return ahead.size();
                case 5: return list.length;
                default: return -1;
            }
        }
    }

    /** One run: a frame by chance, then calls of all kinds. */
    static final class Run {
        final long seed;
        final Random r;
        final Model m = new Model();
        final HingeFrames h = new HingeFrames();
        final StringBuilder said = new StringBuilder();
        int calls = 0;
        int mostBars;
        int strongest;
        /** All strengths are this one, so that many falls are like ones; -1: they are not. */
        int alike;
        int[] xs;
        int[] ys;

        Run(long seed) {
            this.seed = seed;
            r = new Random(seed * 7919 + 13);
            mostBars = seed % 6 == 0 ? 7 : seed % 3 == 0 ? 6 : 3 + r.nextInt(3);
            strongest = r.nextInt(3) == 0 ? 4 : r.nextInt(2) == 0 ? 30 : 1000;
            alike = seed % 4 == 1 ? r.nextInt(3) : -1;
            xs = lines();
            ys = lines();
        }

        /** Two or three places, growing. */
        int[] lines() {
            int a = r.nextInt(5);
            int b = a + 1 + r.nextInt(6 - a - 1);
            return r.nextInt(3) == 0 ? new int[] {a, b} : new int[] {a, b, b + 1 + r.nextInt(6 - b)};
        }

        /** A frame that stands on its lowest joints, of bars from joint to next joint. */
        void build() {
            boolean square = r.nextInt(2) == 0;
            int base = square ? -1 : r.nextInt(ys.length);
            for (int i = 0; i < ys.length; i++) {
                for (int x : xs) {
                    int held = i == 0 ? (r.nextInt(5) == 0 ? in(0, 7) : 7) : r.nextInt(8) == 0 ? in(0, 7) : 0;
                    if (i == base && r.nextInt(3) == 0) {
                        held = 7;
                    }
                    if (r.nextInt(8) != 0) {
                        addJoint(x, ys[i], held);
                    }
                }
            }
            for (int t = 0; t < 40 && m.now.bars.size() < mostBars; t++) {
                int a = aJoint();
                int b = aJoint();
                if (m.now.canJoin(a, b) && (!isJoined(a, b) || r.nextInt(20) == 0)
                        && (m.now.joints.get(a)[2] & m.now.joints.get(b)[2]) != 7) {
                    int p = aStrength();
                    int q = r.nextInt(3) != 0 ? p : aStrength();
                    addBar(a, b, p, q);
                }
            }
            for (int t = 0; t < 5 && !m.now.joints.isEmpty(); t++) {
                addLoad(in(0, 1), aJoint());
            }
        }

        /** A frame that was found by search: x, y, HELD of its JOINTS, its BARS' JOINTS, its pins as bits. */
        void buildOdd(int[][] f) {
            for (int j = 0; j < 7; j++) {
                addJoint(f[0][j], f[1][j], f[2][j]);
            }
            for (int b = 0; b < 7; b++) {
                addBar(f[3][b], f[4][b], aStrength(), aStrength());
            }
            for (int e = 0; e < 14; e++) {
                if ((f[5][0] >> e & 1) != 0) {
                    due("pin(" + e + ", true)", h.pin(e, true) ? 1 : 0, m.pin(e, true));
                }
            }
            for (int t = 0; t < 8; t++) {
                addLoad(in(0, 5), aJoint());
            }
        }

        /** Of great turns, of great numbers below the line, of many falls. */
        static final int[][][] ODD = {
            {{0, 6, 1, 6, 0, 0, 6}, {0, 0, 0, 6, 6, 1, 1}, {2, 0, 7, 4, 7, 0, 0}, {0, 3, 5, 0, 6, 2, 1}, {5, 6, 4, 4, 5, 1, 3}, {264}},
            {{5, 6, 6, 6, 0, 0, 0}, {0, 0, 6, 1, 0, 6, 1}, {7, 5, 0, 3, 1, 0, 5}, {4, 6, 1, 5, 2, 5, 1}, {0, 3, 2, 4, 3, 6, 0}, {1366}},
            {{6, 5, 6, 0, 6, 0, 0}, {0, 0, 6, 5, 5, 0, 6}, {7, 3, 2, 0, 0, 0, 0}, {2, 5, 0, 2, 5, 2, 6}, {4, 3, 4, 0, 1, 6, 3}, {1113}},
            {{0, 3, 0, 3, 5, 3, 5}, {1, 1, 5, 6, 1, 5, 6}, {4, 7, 0, 2, 0, 2, 0}, {3, 3, 0, 2, 5, 4, 0}, {6, 1, 2, 5, 3, 6, 4}, {0}},
            {{5, 6, 0, 6, 6, 5, 0}, {1, 6, 1, 1, 0, 0, 0}, {0, 5, 0, 7, 0, 6, 2}, {2, 2, 4, 4, 4, 3, 0}, {6, 0, 6, 5, 1, 0, 2}, {1680}},
            {{6, 6, 5, 0, 0, 0, 5}, {5, 6, 0, 5, 0, 6, 5}, {7, 6, 4, 1, 0, 7, 0}, {3, 5, 2, 3, 2, 1, 0}, {0, 4, 4, 6, 6, 5, 6}, {6486}},
            {{1, 6, 6, 0, 6, 1, 0}, {1, 6, 0, 1, 1, 0, 0}, {7, 0, 1, 7, 1, 5, 7}, {4, 2, 5, 4, 4, 3, 2}, {0, 1, 6, 3, 1, 0, 5}, {3749}},
        };

        boolean isJoined(int a, int b) {
            for (int[] bar : m.now.bars) {
                if (bar[0] == a && bar[1] == b || bar[0] == b && bar[1] == a) {
                    return true;
                }
            }
            return false;
        }

        void addJoint(int x, int y, int held) {
            due("joint(" + x + ", " + y + ", " + held + ")", h.joint(x, y, held), m.joint(x, y, held));
        }

        void addBar(int a, int b, int p, int q) {
            due("bar(" + a + ", " + b + ", " + p + ", " + q + ")", h.bar(a, b, p, q), m.bar(a, b, p, q));
        }

        void addLoad(int c, int j) {
            int wide = alike >= 0 ? 1 : r.nextInt(3) == 0 ? 100 : 5;
            int x = odd() ? in(-101, 101) : in(-wide, wide);
            int y = odd() ? in(99, 102) * (1 - 2 * in(0, 1)) : in(-wide, wide);
            due("load(" + c + ", " + j + ", " + x + ", " + y + ")", h.load(c, j, x, y) ? 1 : 0, m.load(c, j, x, y));
        }

        int in(int a, int b) {
            return a + r.nextInt(b - a + 1);
        }

        boolean odd() {
            return r.nextInt(25) == 0;
        }

        void due(String call, long got, long want) {
            calls++;
            if (got != want) {
                wrong++;
                System.out.println("seed " + seed + ", call " + calls + ": " + call + " answered " + got + ", the model " + want);
            }
        }

        long play() {
            int before = wrong;
            if (seed % 7 == 2) {
                buildOdd(ODD[(int) (seed / 7 % ODD.length)]);
            } else if (seed % 10 != 9) {
                build();
            }
            while (calls < 380 && wrong == before) {
                step();
            }
            return calls;
        }

        int aCase() {
            return odd() ? in(-2, 7) : r.nextInt(3) == 0 ? in(0, 5) : in(0, 1);
        }

        int aBar() {
            return odd() || m.now.bars.isEmpty() ? in(-1, 8) : r.nextInt(m.now.bars.size());
        }

        int aJoint() {
            return odd() || m.now.joints.isEmpty() ? in(-1, 8) : r.nextInt(m.now.joints.size());
        }

        int aPart() {
            return odd() ? in(-2, 3) : in(0, 1);
        }

        int aStrength() {
            return odd() ? in(-1, 1) + 1000 * in(0, 1) : alike >= 0 ? alike : in(0, strongest);
        }

        void step() {
            int k = r.nextInt(100);
            if (k < 18 && calls > 60 && r.nextInt(3) != 0) {
                k = 18 + r.nextInt(12);
            }
            if (calls < 40 && seed % 10 == 9) {
                k = k < 8 ? k : r.nextInt(24);
            }
            if (k < 30) {
                change(k);
            } else if (k < 70) {
                ask(k);
            } else {
                tell(k);
            }
        }

        void change(int k) {
            if (k < 6) {
                int x = odd() ? in(-1, 7) : xs[r.nextInt(xs.length)];
                int y = odd() ? in(-1, 7) : ys[r.nextInt(ys.length)];
                int held = odd() ? in(-1, 8) : r.nextInt(3) == 0 ? 7 : r.nextInt(4) == 0 ? in(0, 7) : 0;
                addJoint(x, y, held);
            } else if (k < 15) {
                if (m.now.bars.size() >= mostBars && !(mostBars == 7 && odd())) {
                    return;
                }
                int a = aJoint();
                int b = aJoint();
                for (int i = 0; i < 5 && !m.now.canJoin(a, b); i++) {
                    b = aJoint();
                }
                int p = aStrength();
                int q = r.nextInt(2) == 0 ? p : aStrength();
                addBar(a, b, p, q);
            } else if (k < 18) {
                int e = odd() ? in(-2, 15) : in(0, Math.max(0, 2 * m.now.bars.size() - 1));
                boolean is = r.nextInt(4) == 0;
                due("pin(" + e + ", " + is + ")", h.pin(e, is) ? 1 : 0, m.pin(e, is));
            } else if (k < 20) {
                int b = aBar();
                int p = aStrength();
                int q = aStrength();
                due("strength(" + b + ", " + p + ", " + q + ")", h.strength(b, p, q) ? 1 : 0, m.strength(b, p, q));
            } else if (k < 25) {
                addLoad(aCase(), aJoint());
            } else if (k < 27) {
                int b = aBar();
                int g = odd() ? in(-1, 4) : in(0, 2);
                due("group(" + b + ", " + g + ")", h.group(b, g) ? 1 : 0, m.group(b, g));
            } else if (k < 29) {
                due("undo()", h.undo(), m.undo());
            } else {
                due("redo()", h.redo(), m.redo());
            }
        }

        void ask(int k) {
            int c = aCase();
            int b = aBar();
            int what = aPart();
            if (k < 33) {
                int w = in(-1, 3);
                due("free(" + w + ")", h.free(w), m.free(w));
            } else if (k < 36) {
                int w = r.nextInt(3) == 0 ? -1 : c;
                due("falls(" + w + ")", h.falls(w), m.falls(w));
            } else if (k < 42) {
                due("greatest(" + c + ", " + what + ")", h.greatest(c, what), m.greatest(c, what));
            } else if (k < 47) {
                int e = odd() ? in(-2, 16) : in(0, Math.max(0, 2 * m.now.bars.size() - 1));
                due("fall(" + c + ", " + e + ")", h.fall(c, e), m.fall(c, e));
            } else if (k < 49) {
                due("only(" + c + ")", h.only(c), m.only(c));
            } else if (k < 53) {
                due("worth(" + c + ", " + b + ", " + what + ")", h.worth(c, b, what), m.worth(c, b, what));
            } else if (k < 56) {
                int wide = odd() ? 103 : 10;
                int x = in(-wide, wide);
                int y = in(-wide, wide);
                int set = odd() ? in(-1, 130) : in(0, Math.max(1, (1 << m.now.joints.size()) - 1));
                due("rolls(" + x + ", " + y + ", " + set + ")", h.rolls(x, y, set), m.rolls(x, y, set));
            } else if (k < 60) {
                due("out(" + c + ", " + b + ", " + what + ")", h.out(c, b, what), m.out(c, b, what));
            } else if (k < 63) {
                int w = in(-1, 9);
                due("look(" + b + ", " + w + ")", h.look(b, w), m.look(b, w));
            } else if (k < 65) {
                int j = aJoint();
                int w = in(-1, 23);
                due("place(" + j + ", " + w + ")", h.place(j, w), m.place(j, w));
            } else if (k < 67) {
                int w = in(-1, 6);
                due("count(" + w + ")", h.count(w), m.count(w));
            } else {
                int set = odd() ? in(-1, 65) : r.nextInt(3) == 0 ? in(1, 63) : in(1, 3);
                int w = in(-1, 2) + (odd() ? 2 : 0) - (odd() ? 2 : 0);
                due("metal(" + set + ", " + w + ")", h.metal(set, w), m.metal(set, w));
            }
        }

        void tell(int k) {
            if (k < 75) {
                int n = odd() ? in(-1, 8) : in(1, Math.max(1, mostBars - m.now.bars.size()));
                if (m.now.bars.size() + n > mostBars && n <= 7 && mostBars < 7) {
                    return;
                }
                feedAll(sheetWords(Math.max(1, Math.min(7, n))));
                due("sheet(" + n + ")", h.sheet(n), m.sheet(n));
            } else if (k < 80) {
                int n = odd() ? in(-1, 8) : in(1, 6);
                int[] words = new int[5 * in(0, 2)];
                int s = r.nextInt(3) == 0 ? 0 : in(0, 5);
                for (int i = 0; i < words.length; i++) {
                    words[i] = s;
                    s += odd() ? -1 : in(1, strongest / 4 + 2);
                }
                feedAll(words);
                due("list(" + n + ")", h.list(n) ? 1 : 0, m.list(n));
            } else if (k < 89) {
                tellBends();
            } else if (k < 97) {
                tellTurns();
            } else if (k < 99) {
                int w = aPart();
                due("bound(" + w + ")", h.bound(w), m.bound(w));
            } else {
                int[] words = {r.nextInt(), r.nextInt(), r.nextInt(), r.nextInt(), r.nextInt()};
                feedAll(words);
            }
        }

        int[] sheetWords(int n) {
            int[] words = new int[n];
            for (int i = 0; i < n; i++) {
                int a = Math.max(0, aJoint());
                int b = Math.max(0, aJoint());
                for (int t = 0; t < 12 && !m.now.canJoin(a, b); t++) {
                    a = Math.max(0, aJoint());
                    b = Math.max(0, aJoint());
                }
                words[i] = a << 24 | b << 16 | r.nextInt(256) << 8 | r.nextInt(256);
            }
            return words;
        }

        /** Feeds words, five at a time; mostly onto an empty tape. */
        void feedAll(int[] words) {
            if (m.tape.size() > 0 && r.nextInt(6) != 0) {
                drain();
            }
            for (int i = 0; i < words.length; i += 5) {
                int[] w = Arrays.copyOfRange(words, i, i + 5);
                due("feed(" + Arrays.toString(w) + ")", h.feed(w[0], w[1], w[2], w[3], w[4]), m.feed(w));
            }
        }

        /** A told list or bends empty the tape. */
        void drain() {
            if (8 * m.now.bars.size() <= m.tape.size()) {
                due("bends(0, 1, 1)", h.bends(0, 1, 1), m.bends(0, 1, 1));
            } else {
                due("list(1)", h.list(1) ? 1 : 0, m.list(1));
            }
        }

        void tellBends() {
            Analysis a = Model.analysis(m.now, -1);
            int c = aCase();
            int n = odd() ? in(-1000001, 1000001) : in(-20, 20);
            int d = odd() ? in(-1, 1001) : in(1, 4);
            int[] words = new int[2 * m.now.bars.size()];
            // bends, and a factor behind them: what balances is a kernel
            int e = a.ends.size();
            Frac[] load = a.loadRow(m.now.loads[Math.floorMod(c, 6)]);
            List<Frac[]> eq = new ArrayList<>();
            for (Frac[] v : a.moves) {
                Frac[] row = zeros(e + 1);
                for (int i = 0; i < e; i++) {
                    row[i] = dot(a.turnRows.get(i), v);
                }
                row[e] = Frac.ZERO.minus(dot(load, v));
                eq.add(row);
            }
            long[] sum = new long[e + 1];
            for (Frac[] v : kernel(eq, e + 1)) {
                long[] w = primitive(v);
                int f = in(-3, 3);
                for (int i = 0; i <= e; i++) {
                    sum[i] += f * w[i];
                }
            }
            for (int i = 0; i < e; i++) {
                words[a.ends.get(i)] = (int) sum[i];
            }
            if (Math.abs(sum[e]) <= 100000) {
                d = odd() ? d : in(1, 3);
                n = odd() ? n : (int) sum[e] * d;
            }
            spoil(words);
            feedAll(words);
            due("bends(" + c + ", " + n + ", " + d + ")", h.bends(c, n, d), m.bends(c, n, d));
        }

        void tellTurns() {
            Analysis a = Model.analysis(m.now, -1);
            int c = aCase();
            int[] words = new int[2 * m.now.bars.size()];
            List<Plain> plain = a.plain();
            for (int t = in(0, 2); t >= 0 && !plain.isEmpty(); t--) {
                long[] w = plain.get(r.nextInt(plain.size())).turns;
                int f = odd() ? in(-3000, 3000) : in(-2, 2);
                for (int i = 0; i < w.length; i++) {
                    words[a.ends.get(i)] += (int) (f * w[i]);
                }
            }
            spoil(words);
            feedAll(words);
            due("turning(" + c + ")", h.turning(c), m.turning(c));
        }

        void spoil(int[] words) {
            if (r.nextInt(8) == 0 && words.length > 0) {
                words[r.nextInt(words.length)] += odd() ? r.nextInt() : in(-1, 1);
            }
        }
    }
}
