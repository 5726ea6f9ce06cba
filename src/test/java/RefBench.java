import java.math.BigDecimal;
import java.math.MathContext;
import java.util.ArrayList;
import java.util.List;

/**
 * The document once more, written with the Java library alone and without a thought of speed:
 * the random runs compare LensBench with it. It throws nothing away and shares no code with LensBench.
 */
final class RefBench {
    static final int[] LINES = {365, 405, 436, 486, 546, 588, 633, 656, 707, 768, 852, 1014};

    static final class Surface {
        double[] a = {0, 0, 0, 10};
        int glass = -1;
        boolean mirror;

        Surface copy() {
            Surface s = new Surface();
            s.a = a.clone();
            s.glass = glass;
            s.mirror = mirror;
            return s;
        }
    }

    static final class Variable {
        int i;
        int what;
        double low;
        double high;
        double step;
    }

    static final class Sys {
        List<Surface> surfaces = new ArrayList<>();
        List<int[]> parts = new ArrayList<>();
        List<Variable> variables = new ArrayList<>();
        List<int[]> tolerances = new ArrayList<>();
    }

    static final class Traced {
        int outcome;
        int surface;
        List<double[]> at = new ArrayList<>();

        int code() {
            return outcome == 0 ? 0 : 100 * outcome + surface;
        }
    }

    static final class Spot {
        int all;
        int passed;
        int[] cut = new int[16];
        double x;
        double y;
        double spread;
        double greatest;
    }

    final int[][] n = new int[16][12];
    final Sys[] sys = new Sys[8];
    final double[][] rays = new double[8][];
    final int[] waves = new int[8];
    Traced traced;
    List<double[]> rows = new ArrayList<>();
    Spot spot;
    Double worst;

    RefBench() {
        for (int[] row : n) {
            java.util.Arrays.fill(row, 15000000);
        }
        for (int i = 0; i < 8; i++) {
            sys[i] = new Sys();
            rays[i] = new double[] {0, 0, 0, 0, 0, 1};
            waves[i] = 588;
        }
    }

    static boolean in(int v, int low, int high) {
        return v >= low && v <= high;
    }

    static long bits(double d) {
        return Double.doubleToRawLongBits(d);
    }

    static boolean can(int what, double d) {
        if (Double.isNaN(d)) {
            return false;
        }
        switch (what) {
            case 0: return Math.abs(d) <= 1;
            case 1: return Math.abs(d) <= 10;
            case 2: return Math.abs(d) <= 10000;
            default: return d > 0 && d <= 1000;
        }
    }

    boolean glass(int g, int line, int v) {
        if (!in(g, 0, 15) || !in(line, 0, 11) || !in(v, 5000001, 40000000)) {
            return false;
        }
        n[g][line] = v;
        return true;
    }

    double indexOf(int g, int w) {
        if (g == -1) {
            return 1.0;
        }
        for (int i = 0; i < 12; i++) {
            if (LINES[i] == w) {
                return n[g][i] / 10000000.0;
            }
        }
        int i = 0;
        while (LINES[i + 1] < w) {
            i++;
        }
        long a = LINES[i];
        long b = LINES[i + 1];
        long above = n[g][i] * (b - w) + n[g][i + 1] * (w - a);
        return (double) above / (double) (10000000L * (b - a));
    }

    long index(int g, int w) {
        return in(g, -1, 15) && in(w, 365, 1014) ? bits(indexOf(g, w)) : -1;
    }

    boolean has(int s, int i) {
        return in(s, 0, 7) && i >= 0 && i < sys[s].surfaces.size();
    }

    int surface(int s) {
        if (!in(s, 0, 7) || sys[s].surfaces.size() == 16) {
            return -1;
        }
        sys[s].surfaces.add(new Surface());
        return sys[s].surfaces.size();
    }

    int clear(int s) {
        if (!in(s, 0, 7)) {
            return -1;
        }
        int had = sys[s].surfaces.size();
        sys[s] = new Sys();
        return had;
    }

    boolean put(int s, int i, int what, long b) {
        double d = Double.longBitsToDouble(b);
        if (!has(s, i) || !in(what, 0, 3) || !can(what, d)) {
            return false;
        }
        sys[s].surfaces.get(i).a[what] = d == 0 ? 0.0 : d;
        return true;
    }

    boolean behind(int s, int i, int g, boolean mirror) {
        if (!has(s, i) || !in(g, -1, 15)) {
            return false;
        }
        sys[s].surfaces.get(i).glass = g;
        sys[s].surfaces.get(i).mirror = mirror;
        return true;
    }

    long get(int s, int i, int what) {
        return has(s, i) && in(what, 0, 3) ? bits(sys[s].surfaces.get(i).a[what]) : -1;
    }

    int kind(int s, int i, int what) {
        if (!has(s, i) || !in(what, 0, 1)) {
            return -2;
        }
        Surface f = sys[s].surfaces.get(i);
        return what == 0 ? f.glass : f.mirror ? 1 : 0;
    }

    boolean ray(int r, int what, long b) {
        double d = Double.longBitsToDouble(b);
        if (!in(r, 0, 7) || !in(what, 0, 5) || !(Math.abs(d) <= (what < 3 ? 1e6 : 1.0))) {
            return false;
        }
        rays[r][what] = d == 0 ? 0.0 : d;
        return true;
    }

    boolean wave(int r, int w) {
        if (!in(r, 0, 7) || !in(w, 365, 1014)) {
            return false;
        }
        waves[r] = w;
        return true;
    }

    boolean unit(int r) {
        double[] a = rays[r];
        return !(Math.abs(((a[3] * a[3] + a[4] * a[4]) + a[5] * a[5]) - 1.0) > Math.pow(2, -40));
    }

    static BigDecimal square(double d) {
        return new BigDecimal(d).pow(2);
    }

    static boolean beyond(double x, double y, double h) {
        return square(x).add(square(y)).compareTo(square(h)) > 0;
    }

    static boolean odd(double... ds) {
        for (double d : ds) {
            if (Double.isNaN(d) || Double.isInfinite(d)) {
                return true;
            }
        }
        return false;
    }

    Traced through(Sys system, double[] start, int wave) {
        Traced t = new Traced();
        double x = start[0];
        double y = start[1];
        double z = start[2];
        double K = start[3];
        double L = start[4];
        double M = start[5];
        double n = 1.0;
        double path = 0.0;
        for (int j = 0; j < system.surfaces.size(); j++) {
            t.surface = j;
            Surface f = system.surfaces.get(j);
            double c = f.a[0];
            double k = f.a[1];
            if (j > 0) {
                z = z - system.surfaces.get(j - 1).a[2];
            }
            double A = c * ((K * K + L * L) + (1.0 + k) * (M * M));
            double B = M - c * ((x * K + y * L) + (1.0 + k) * (z * M));
            double C = c * ((x * x + y * y) + (1.0 + k) * (z * z)) - 2.0 * z;
            double D = B * B - A * C;
            if (odd(D)) {
                t.outcome = 4;
                return t;
            }
            if (D < 0) {
                t.outcome = 1;
                return t;
            }
            double q = B < 0 ? B - Math.sqrt(D) : B + Math.sqrt(D);
            if (q == 0) {
                t.outcome = 1;
                return t;
            }
            double s = C / q;
            if (odd(s)) {
                t.outcome = 4;
                return t;
            }
            x = x + s * K;
            y = y + s * L;
            z = z + s * M;
            double p = 1.0 - c * ((1.0 + k) * z);
            if (odd(x, y, z, p)) {
                t.outcome = 4;
                return t;
            }
            if (!(p > 0)) {
                t.outcome = 1;
                return t;
            }
            if (beyond(x, y, f.a[3])) {
                t.outcome = 2;
                return t;
            }
            path = path + n * s;
            double u = 0.0 - c * x;
            double v = 0.0 - c * y;
            double g = Math.sqrt((u * u + v * v) + p * p);
            if (odd(path, g)) {
                t.outcome = 4;
                return t;
            }
            u = u / g;
            v = v / g;
            p = p / g;
            double I = (K * u + L * v) + M * p;
            if (I < 0) {
                u = -u;
                v = -v;
                p = -p;
                I = -I;
            }
            if (f.mirror) {
                double e = 2.0 * I;
                K = K - e * u;
                L = L - e * v;
                M = M - e * p;
            } else {
                double n2 = indexOf(f.glass, wave);
                double m = n / n2;
                double R = 1.0 - (m * m) * (1.0 - I * I);
                if (R < 0) {
                    t.outcome = 3;
                    return t;
                }
                double ff = Math.sqrt(R) - m * I;
                K = m * K + ff * u;
                L = m * L + ff * v;
                M = m * M + ff * p;
                n = n2;
            }
            if (odd(K, L, M)) {
                t.outcome = 4;
                return t;
            }
            t.at.add(new double[] {x, y, z, K, L, M, path});
        }
        return t;
    }

    int trace(int s, int r) {
        if (!in(s, 0, 7) || !in(r, 0, 7)) {
            return -1;
        }
        if (!unit(r)) {
            return -2;
        }
        traced = through(sys[s], rays[r], waves[r]);
        return traced.code();
    }

    long at(int i, int what) {
        if (traced == null || i < 0 || i >= traced.at.size() || !in(what, 0, 6)) {
            return -1;
        }
        return bits(traced.at.get(i)[what]);
    }

    List<double[]> rowsOf(Sys system, int w) {
        List<double[]> found = new ArrayList<>();
        double y = 1.0;
        double u = 0.0;
        double n = 1.0;
        int last = system.surfaces.size() - 1;
        for (int i = 0; i <= last; i++) {
            Surface f = system.surfaces.get(i);
            double n2 = f.mirror ? -n : Math.copySign(indexOf(f.glass, w), n);
            u = (n * u - y * (f.a[0] * (n2 - n))) / n2;
            n = n2;
            found.add(new double[] {y, u, n});
            if (i < last) {
                y = y + f.a[2] * u;
            }
        }
        return found;
    }

    static double paraxialOf(List<double[]> rows, int what) {
        double[] last = rows.get(rows.size() - 1);
        return what == 0 ? 0.0 - 1.0 / last[1] : 0.0 - last[0] / last[1];
    }

    long paraxial(int s, int w, int what) {
        if (!in(s, 0, 7) || sys[s].surfaces.isEmpty() || !in(w, 365, 1014)) {
            return -1;
        }
        rows = rowsOf(sys[s], w);
        if (!in(what, 0, 1)) {
            return -1;
        }
        double v = paraxialOf(rows, what);
        return odd(v) ? -1 : bits(v);
    }

    long row(int i, int what) {
        return i >= 0 && i < rows.size() && in(what, 0, 2) ? bits(rows.get(i)[what]) : -1;
    }

    Spot spotOf(Sys system, int r, int n) {
        Spot spot = new Spot();
        double h = system.surfaces.get(0).a[3];
        List<double[]> ends = new ArrayList<>();
        for (int i = 0; i < n; i++) {
            for (int j = 0; j < n; j++) {
                double x = h * ((double) (2 * i + 1 - n) / n);
                double y = h * ((double) (2 * j + 1 - n) / n);
                if (beyond(x, y, h)) {
                    continue;
                }
                spot.all++;
                double[] a = rays[r];
                Traced t = through(system, new double[] {x, y, 0, a[3], a[4], a[5]}, waves[r]);
                if (t.outcome == 0) {
                    ends.add(t.at.get(t.at.size() - 1));
                } else {
                    spot.cut[t.surface]++;
                }
            }
        }
        spot.passed = ends.size();
        if (spot.passed == 0) {
            return spot;
        }
        BigDecimal sx = BigDecimal.ZERO;
        BigDecimal sy = BigDecimal.ZERO;
        for (double[] e : ends) {
            sx = sx.add(new BigDecimal(e[0]));
            sy = sy.add(new BigDecimal(e[1]));
        }
        spot.x = rounded(sx) / ends.size();
        spot.y = rounded(sy) / ends.size();
        BigDecimal all = BigDecimal.ZERO;
        BigDecimal most = BigDecimal.ZERO;
        for (double[] e : ends) {
            BigDecimal d = square(e[0] - spot.x).add(square(e[1] - spot.y));
            all = all.add(d);
            most = most.max(d);
        }
        spot.spread = Math.sqrt(rounded(all) / ends.size());
        spot.greatest = Math.sqrt(rounded(most));
        return spot;
    }

    /** The nearest double, of two as near the even one (BigDecimal.doubleValue() of Java 17 is not sure). */
    static double rounded(BigDecimal v) {
        if (v.signum() == 0) {
            return 0.0;
        }
        if (v.signum() < 0) {
            return -rounded(v.negate());
        }
        double guess = Math.abs(v.round(new MathContext(25)).doubleValue());
        double best = guess;
        for (double d : new double[] {Math.nextDown(guess), Math.nextUp(guess)}) {
            int nearer = v.subtract(new BigDecimal(d)).abs().compareTo(v.subtract(new BigDecimal(best)).abs());
            if (nearer < 0 || (nearer == 0 && (bits(d) & 1) == 0)) {
                best = d;
            }
        }
        return Math.abs(best);
    }

    int spot(int s, int r, int n) {
        if (!in(s, 0, 7) || !in(r, 0, 7) || !in(n, 1, 16) || !unit(r) || sys[s].surfaces.isEmpty()) {
            return -1;
        }
        spot = spotOf(sys[s], r, n);
        return spot.passed;
    }

    long spotted(int what) {
        if (spot == null || spot.passed == 0 || !in(what, 0, 3)) {
            return -1;
        }
        double v = what == 0 ? spot.x : what == 1 ? spot.y : what == 2 ? spot.spread : spot.greatest;
        return odd(v) ? -1 : bits(v);
    }

    int cut(int i) {
        if (spot == null || i < -1 || i > 15) {
            return 0;
        }
        return i == -1 ? spot.all : spot.cut[i];
    }

    int want(int s, int kind, int r, int n, int weight, int goal) {
        if (!in(s, 0, 7) || !in(kind, 0, 2) || !in(r, 0, 7) || !in(n, 1, kind == 2 ? 16 : 1)) {
            return -1;
        }
        if (!in(weight, 0, 1000) || !in(goal, -10000, 10000) || sys[s].parts.size() == 8) {
            return -1;
        }
        sys[s].parts.add(new int[] {kind, r, n, weight, goal});
        return sys[s].parts.size();
    }

    double meritOf(Sys system) {
        double merit = 0.0;
        for (int[] part : system.parts) {
            double v;
            if (part[0] == 2) {
                if (!unit(part[1])) {
                    return Double.POSITIVE_INFINITY;
                }
                Spot spot = spotOf(system, part[1], part[2]);
                v = spot.passed == 0 ? Double.NaN : spot.spread;
            } else {
                v = paraxialOf(rowsOf(system, waves[part[1]]), part[0]);
            }
            if (odd(v)) {
                return Double.POSITIVE_INFINITY;
            }
            merit = merit + part[3] * ((v - part[4]) * (v - part[4]));
        }
        return odd(merit) ? Double.POSITIVE_INFINITY : merit;
    }

    long merit(int s) {
        return in(s, 0, 7) && !sys[s].surfaces.isEmpty() ? bits(meritOf(sys[s])) : -1;
    }

    boolean span(int what, int low, int high) {
        return in(what, 0, 2) && low < high && can(what, low / 1000.0) && can(what, high / 1000.0);
    }

    int vary(int s, int i, int what, int low, int high) {
        if (!has(s, i) || !span(what, low, high) || sys[s].variables.size() == 6) {
            return -1;
        }
        Variable v = new Variable();
        v.i = i;
        v.what = what;
        v.low = low / 1000.0;
        v.high = high / 1000.0;
        v.step = (v.high - v.low) * 0.125;
        sys[s].variables.add(v);
        return sys[s].variables.size();
    }

    int improve(int s, int rounds) {
        if (!in(s, 0, 7) || !in(rounds, 1, 10) || sys[s].surfaces.isEmpty() || odd(meritOf(sys[s]))) {
            return -1;
        }
        for (Variable v : sys[s].variables) {
            double x = sys[s].surfaces.get(v.i).a[v.what];
            if (x < v.low || x > v.high) {
                return -1;
            }
        }
        int moved = 0;
        for (int round = 0; round < rounds; round++) {
            for (Variable v : sys[s].variables) {
                if (moves(sys[s], v)) {
                    moved++;
                } else {
                    v.step = v.step * 0.5;
                }
            }
        }
        return moved;
    }

    boolean moves(Sys system, Variable v) {
        double[] a = system.surfaces.get(v.i).a;
        double x = a[v.what];
        double now = meritOf(system);
        for (double tried : new double[] {x + v.step, x - v.step}) {
            if (tried > v.high || tried < v.low) {
                continue;
            }
            a[v.what] = tried;
            if (meritOf(system) < now) {
                return true;
            }
            a[v.what] = x;
        }
        return false;
    }

    long step(int s, int k) {
        return in(s, 0, 7) && k >= 0 && k < sys[s].variables.size() ? bits(sys[s].variables.get(k).step) : -1;
    }

    int tolerance(int s, int i, int what, int by) {
        if (!has(s, i) || !in(what, 0, 2) || by == 0 || sys[s].tolerances.size() == 6) {
            return -1;
        }
        sys[s].tolerances.add(new int[] {i, what, by});
        return sys[s].tolerances.size();
    }

    double meritWith(Sys system, int way, List<int[]> tolerances) {
        Sys other = new Sys();
        for (Surface f : system.surfaces) {
            other.surfaces.add(f.copy());
        }
        other.parts = system.parts;
        for (int k = 0; k < tolerances.size(); k++) {
            int[] t = tolerances.get(k);
            double by = t[2] / 1000000.0;
            double[] a = other.surfaces.get(t[0]).a;
            a[t[1]] = (way >> k & 1) == 1 ? a[t[1]] - by : a[t[1]] + by;
        }
        return meritOf(other);
    }

    long effect(int s, int k) {
        if (!in(s, 0, 7) || k < 0 || k >= sys[s].tolerances.size()) {
            return -1;
        }
        double with = meritWith(sys[s], 0, List.of(sys[s].tolerances.get(k)));
        double merit = meritOf(sys[s]);
        return odd(with, merit) ? -1 : bits(with - merit);
    }

    int worst(int s) {
        if (!in(s, 0, 7) || sys[s].surfaces.isEmpty()) {
            return -1;
        }
        int found = -1;
        double most = -1;
        for (int way = 0; way < 1 << sys[s].tolerances.size(); way++) {
            double merit = meritWith(sys[s], way, sys[s].tolerances);
            if (merit > most) {
                most = merit;
                found = way;
            }
        }
        worst = most;
        return found;
    }

    long worstMerit() {
        return worst == null ? -1 : bits(worst);
    }

    int solve(int s, int i, int what, int low, int high, int w, int goal) {
        if (!has(s, i) || !span(what, low, high) || !in(w, 365, 1014)) {
            return -1;
        }
        double[] a = sys[s].surfaces.get(i).a;
        double before = a[what];
        double lo = low / 1000.0;
        double hi = high / 1000.0;
        double atLow = backLess(s, a, what, lo, w, goal);
        double atHigh = backLess(s, a, what, hi, w, goal);
        boolean fine = !odd(atLow, atHigh) && (atLow <= 0 && atHigh >= 0 || atLow >= 0 && atHigh <= 0);
        for (int k = 0; k < 60 && fine; k++) {
            double middle = lo + (hi - lo) * 0.5;
            double at = backLess(s, a, what, middle, w, goal);
            if (odd(at)) {
                fine = false;
            } else if (at > 0 == backLess(s, a, what, lo, w, goal) > 0) {
                lo = middle;
            } else {
                hi = middle;
            }
        }
        a[what] = fine ? lo + (hi - lo) * 0.5 : before;
        return fine ? 1 : 0;
    }

    double backLess(int s, double[] a, int what, double number, int w, int goal) {
        a[what] = number;
        return paraxialOf(rowsOf(sys[s], w), 1) - goal / 1000.0;
    }

    boolean reverse(int s, int to) {
        if (!in(s, 0, 7) || !in(to, 0, 7)) {
            return false;
        }
        List<Surface> old = sys[s].surfaces;
        for (Surface f : old) {
            if (f.mirror) {
                return false;
            }
        }
        if (!old.isEmpty() && (old.get(old.size() - 1).glass != -1 || old.get(old.size() - 1).a[2] != 0)) {
            return false;
        }
        Sys made = new Sys();
        for (int i = old.size() - 1; i >= 0; i--) {
            Surface f = old.get(i).copy();
            f.a[0] = f.a[0] == 0 ? 0.0 : -f.a[0];
            f.a[2] = i == 0 ? 0.0 : old.get(i - 1).a[2];
            f.glass = i == 0 ? -1 : old.get(i - 1).glass;
            made.surfaces.add(f);
        }
        sys[to] = made;
        return true;
    }

    boolean scale(int s, int to, int e) {
        if (!in(s, 0, 7) || !in(to, 0, 7) || !in(e, -20, 20)) {
            return false;
        }
        Sys made = new Sys();
        for (Surface old : sys[s].surfaces) {
            Surface f = old.copy();
            f.a[0] = f.a[0] / Math.pow(2, e);
            f.a[2] = f.a[2] * Math.pow(2, e);
            f.a[3] = f.a[3] * Math.pow(2, e);
            for (int what = 0; what < 4; what++) {
                if (!can(what, f.a[what])) {
                    return false;
                }
                f.a[what] = f.a[what] == 0 ? 0.0 : f.a[what];
            }
            made.surfaces.add(f);
        }
        sys[to] = made;
        return true;
    }

    boolean join(int a, int b, int to, long t) {
        double d = Double.longBitsToDouble(t);
        if (!in(a, 0, 7) || !in(b, 0, 7) || !in(to, 0, 7) || sys[a].surfaces.isEmpty() || !can(2, d)) {
            return false;
        }
        Sys made = new Sys();
        for (Surface f : sys[a].surfaces) {
            made.surfaces.add(f.copy());
        }
        made.surfaces.get(made.surfaces.size() - 1).a[2] = d == 0 ? 0.0 : d;
        for (Surface f : sys[b].surfaces) {
            made.surfaces.add(f.copy());
        }
        if (made.surfaces.size() > 16) {
            return false;
        }
        sys[to] = made;
        return true;
    }

    int differ(int s, int t) {
        if (!in(s, 0, 7) || !in(t, 0, 7)) {
            return -2;
        }
        List<Surface> a = sys[s].surfaces;
        List<Surface> b = sys[t].surfaces;
        for (int i = 0; i < Math.max(a.size(), b.size()); i++) {
            if (i >= a.size() || i >= b.size()) {
                return i;
            }
            Surface f = a.get(i);
            Surface g = b.get(i);
            if (!java.util.Arrays.equals(f.a, g.a) || f.glass != g.glass || f.mirror != g.mirror) {
                return i;
            }
        }
        return -1;
    }

    int count(int s, int what) {
        if (!in(s, 0, 7) || !in(what, 0, 3)) {
            return -1;
        }
        return what == 0 ? sys[s].surfaces.size() : what == 1 ? sys[s].parts.size()
            : what == 2 ? sys[s].variables.size() : sys[s].tolerances.size();
    }
}
