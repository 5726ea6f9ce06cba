import java.util.Random;

/** Random runs of calls on LensBench and on RefBench: every answer must be the same. */
public final class RandomRunsTest {
    private static final double[] EDGES = {
        0.0, -0.0, 1.0, -1.0, 0.5, -0.5, 2.0, 10.0, -10.0, 10000.0, -10000.0, 1000.0, 1e6, -1e6, 5.0, 0.1, -0.05,
        Double.MIN_VALUE, -Double.MIN_VALUE, 3 * Double.MIN_VALUE, Double.MIN_NORMAL, -1e-310, 1e-170, 1e-155, -1e-160,
        1e-20, -1e-8, Double.MAX_VALUE, Double.NaN, Double.POSITIVE_INFINITY, Double.NEGATIVE_INFINITY,
        Math.nextUp(1.0), Math.nextUp(10.0), Math.nextUp(1000.0), Math.nextUp(10000.0), Math.nextDown(-1e6)
    };

    private final Random random;
    private final LensBench real = new LensBench();
    private final RefBench ref = new RefBench();
    private final int run;
    private int wrong;
    private boolean wild;
    private String call;

    private RandomRunsTest(int run) {
        this.run = run;
        this.random = new Random(7919L * run + 13);
        this.wild = random.nextInt(4) == 0;
    }

    public static void main(String[] args) {
        int runs = args.length > 0 ? Integer.parseInt(args[0]) : 1500;
        int from = args.length > 1 ? Integer.parseInt(args[1]) : 0;
        int wrong = 0;
        for (int run = from; run < from + runs && wrong < 20; run++) {
            wrong += new RandomRunsTest(run).go();
        }
        System.out.println(wrong == 0 ? "RandomRunsTest: " + runs + " runs agree" : "RandomRunsTest: " + wrong + " wrong");
        if (wrong != 0) {
            System.exit(1);
        }
    }

    private int go() {
        if (run % 2 == 0) {
            lens();
        }
        for (int k = 0; k < 400 && wrong == 0; k++) {
            step();
        }
        return wrong;
    }

    /** A lens to begin with, so that merits are finite and there is something to improve. */
    private void lens() {
        int size = 2 + random.nextInt(5);
        for (int i = 0; i < size; i++) {
            call = "surface(0)";
            same(real.surface(0), ref.surface(0));
            double c = i == size - 1 ? 0.0 : (random.nextInt(81) - 40) / 1000.0;
            double k = random.nextInt(3) == 0 ? (random.nextInt(31) - 15) / 10.0 : 0.0;
            double t = i == size - 1 ? 0.0 : i == size - 2 ? 40.0 : 1.0 + random.nextInt(12) * 0.5;
            double[] numbers = {c, k, t, 5 + random.nextInt(8)};
            for (int what = 0; what < 4; what++) {
                long bits = Double.doubleToRawLongBits(numbers[what]);
                call = "put(0, " + i + ", " + what + ", " + bits + ")";
                same(one(real.put(0, i, what, bits)), one(ref.put(0, i, what, bits)));
            }
            int g = i >= size - 2 ? -1 : random.nextInt(4) - 1;
            boolean mirror = random.nextInt(12) == 0;
            call = "behind(0, " + i + ", " + g + ", " + mirror + ")";
            same(one(real.behind(0, i, g, mirror)), one(ref.behind(0, i, g, mirror)));
        }
        for (int r = 0; r < 2; r++) {
            aim(r);
        }
    }

    private void same(long got, long due) {
        if (got != due && wrong++ == 0) {
            System.out.println("run " + run + ": " + call + " answered " + got + ", due is " + due
                + " (" + Double.longBitsToDouble(got) + ", " + Double.longBitsToDouble(due) + ")");
        }
    }

    private static long one(boolean b) {
        return b ? 1 : 0;
    }

    private int pick(int low, int high) {
        if (random.nextInt(60) == 0) {
            int[] off = {low - 1, high + 1, low - 2, Integer.MIN_VALUE, Integer.MAX_VALUE, low, high};
            return off[random.nextInt(off.length)];
        }
        return low + random.nextInt(high - low + 1);
    }

    private int system() {
        return random.nextInt(5) > 0 ? pick(0, 1) : pick(0, 7);
    }

    private int place(int s) {
        int size = s >= 0 && s < 8 ? ref.sys[s].surfaces.size() : 0;
        return size == 0 ? pick(0, 15) : pick(0, size - 1);
    }

    private int wave() {
        return random.nextInt(3) == 0 ? RefBench.LINES[random.nextInt(12)] : pick(365, 1014);
    }

    private long number(int what) {
        if (random.nextInt(wild ? 3 : 25) == 0) {
            return Double.doubleToRawLongBits(EDGES[random.nextInt(EDGES.length)]);
        }
        if (random.nextInt(200) == 0) {
            return random.nextLong();
        }
        double sign = random.nextBoolean() ? 1 : -1;
        double d;
        switch (what) {
            case 0: d = sign * random.nextDouble() * (random.nextInt(4) == 0 ? 1.0 : 0.05); break;
            case 1: d = sign * random.nextInt(4) * (random.nextBoolean() ? 0.5 : random.nextDouble()); break;
            case 2: d = random.nextInt(5) == 0 ? -random.nextDouble() * 20 : random.nextDouble() * 20; break;
            default: d = 1 + random.nextInt(30) * 0.5; break;
        }
        return Double.doubleToRawLongBits(d);
    }

    private void step() {
        int kind = random.nextInt(100);
        if (kind < 22) {
            build();
        } else if (kind < 40) {
            rays();
        } else if (kind < 60) {
            look();
        } else if (kind < 74) {
            wishes();
        } else if (kind < 88) {
            seek();
        } else {
            whole();
        }
    }

    private void build() {
        int s = system();
        int i = place(s);
        switch (random.nextInt(6)) {
            case 0: {
                call = "surface(" + s + ")";
                same(real.surface(s), ref.surface(s));
                break;
            }
            case 1: {
                int g = pick(0, 15);
                int line = pick(0, 11);
                int n = random.nextInt(6) == 0 ? pick(5000001, 40000000) : pick(14000000, 19000000);
                call = "glass(" + g + ", " + line + ", " + n + ")";
                same(one(real.glass(g, line, n)), one(ref.glass(g, line, n)));
                break;
            }
            case 2: {
                int g = pick(-1, 15);
                boolean mirror = random.nextInt(5) == 0;
                call = "behind(" + s + ", " + i + ", " + g + ", " + mirror + ")";
                same(one(real.behind(s, i, g, mirror)), one(ref.behind(s, i, g, mirror)));
                break;
            }
            default: {
                int what = pick(0, 3);
                long b = number(what);
                call = "put(" + s + ", " + i + ", " + what + ", " + b + ")";
                same(one(real.put(s, i, what, b)), one(ref.put(s, i, what, b)));
                call = "get(" + s + ", " + i + ", " + what + ")";
                same(real.get(s, i, what), ref.get(s, i, what));
                break;
            }
        }
    }

    private void rays() {
        int r = random.nextInt(3) > 0 ? pick(0, 1) : pick(0, 7);
        switch (random.nextInt(4)) {
            case 0: {
                int w = wave();
                call = "wave(" + r + ", " + w + ")";
                same(one(real.wave(r, w)), one(ref.wave(r, w)));
                break;
            }
            case 1: {
                aim(r);
                break;
            }
            default: {
                int what = pick(0, random.nextInt(9) == 0 ? 5 : 2);
                double d = random.nextInt(4) == 0 ? random.nextInt(9) - 4 : random.nextGaussian() * (what == 2 ? 30 : 4);
                long b = random.nextInt(wild ? 3 : 30) == 0 ? number(random.nextInt(4)) : Double.doubleToRawLongBits(d);
                call = "ray(" + r + ", " + what + ", " + b + ")";
                same(one(real.ray(r, what, b)), one(ref.ray(r, what, b)));
                break;
            }
        }
        int s = system();
        call = "trace(" + s + ", " + r + ")";
        same(real.trace(s, r), ref.trace(s, r));
        for (int i = -1; i < 17; i++) {
            for (int what = -1; what < 8; what++) {
                call = "at(" + i + ", " + what + ")";
                same(real.at(i, what), ref.at(i, what));
            }
        }
    }

    private void aim(int r) {
        double a = random.nextInt(3) == 0 ? random.nextDouble() * 6.3 : random.nextGaussian() * 0.1;
        double b = random.nextDouble() * 6.3;
        double[] d = {Math.sin(a) * Math.cos(b), Math.sin(a) * Math.sin(b), Math.cos(a)};
        if (wild && random.nextInt(2) == 0) {
            double[][] odd = {
                {0, 0, -1}, {1, 0, 0}, {0.6, 0, 0.8}, {-0.6, 0.8, 1e-300}, {1, 0, 1e-200}, {0, 1, -1e-310},
                {-Double.MIN_VALUE, 0, 1}, {1e-160, -1e-160, 1}, {0, 0, 1 - Math.pow(2, -41)}, {0, 0, 1 - Math.pow(2, -40)},
                {0, 1, Double.MIN_VALUE}, {1e-12, 0, 1}, {Math.pow(2, -20), 0, 1}, {Math.pow(2, -21), 0, 1}
            };
            d = odd[random.nextInt(odd.length)];
        }
        for (int k = 0; k < 3; k++) {
            long bits = Double.doubleToRawLongBits(d[k]);
            call = "ray(" + r + ", " + (k + 3) + ", " + bits + ")";
            same(one(real.ray(r, k + 3, bits)), one(ref.ray(r, k + 3, bits)));
        }
    }

    private void look() {
        int s = system();
        int w = wave();
        switch (random.nextInt(4)) {
            case 0: {
                int g = pick(-1, 15);
                call = "index(" + g + ", " + w + ")";
                same(real.index(g, w), ref.index(g, w));
                break;
            }
            case 1: {
                int what = pick(0, 1);
                call = "paraxial(" + s + ", " + w + ", " + what + ")";
                same(real.paraxial(s, w, what), ref.paraxial(s, w, what));
                rowsToo();
                break;
            }
            case 2: {
                int i = place(s);
                int what = pick(0, 1);
                call = "kind(" + s + ", " + i + ", " + what + ")";
                same(real.kind(s, i, what), ref.kind(s, i, what));
                break;
            }
            default: {
                int r = pick(0, 1);
                int n = random.nextInt(3) == 0 ? pick(1, 16) : pick(1, 5);
                call = "spot(" + s + ", " + r + ", " + n + ")";
                same(real.spot(s, r, n), ref.spot(s, r, n));
                spotToo();
                break;
            }
        }
    }

    private void rowsToo() {
        for (int i = -1; i < 17; i++) {
            for (int what = -1; what < 4; what++) {
                call = "row(" + i + ", " + what + ")";
                same(real.row(i, what), ref.row(i, what));
            }
        }
    }

    private void spotToo() {
        for (int what = -1; what < 5; what++) {
            call = "spotted(" + what + ")";
            same(real.spotted(what), ref.spotted(what));
        }
        for (int i = -2; i < 18; i++) {
            call = "cut(" + i + ")";
            same(real.cut(i), ref.cut(i));
        }
    }

    private void wishes() {
        int s = system();
        int i = place(s);
        int what = pick(0, 2);
        switch (random.nextInt(3)) {
            case 0: {
                int kind = pick(0, 2);
                int r = pick(0, 1);
                int n = kind == 2 ? pick(1, 4) : pick(1, 1);
                int weight = pick(0, 1000);
                int goal = random.nextInt(2) == 0 ? 0 : pick(-10000, 10000);
                call = "want(" + s + ", " + kind + ", " + r + ", " + n + ", " + weight + ", " + goal + ")";
                same(real.want(s, kind, r, n, weight, goal), ref.want(s, kind, r, n, weight, goal));
                break;
            }
            case 1: {
                int[] span = span(what);
                call = "vary(" + s + ", " + i + ", " + what + ", " + span[0] + ", " + span[1] + ")";
                same(real.vary(s, i, what, span[0], span[1]), ref.vary(s, i, what, span[0], span[1]));
                break;
            }
            default: {
                int by = random.nextInt(9) == 0 ? random.nextInt() : random.nextInt(20001) - 10000;
                call = "tolerance(" + s + ", " + i + ", " + what + ", " + by + ")";
                same(real.tolerance(s, i, what, by), ref.tolerance(s, i, what, by));
                break;
            }
        }
        call = "merit(" + s + ")";
        same(real.merit(s), ref.merit(s));
    }

    private int[] span(int what) {
        int most = what == 0 ? 1000 : what == 1 ? 10000 : 10000000;
        int near = random.nextInt(3) == 0 ? most : Math.max(1, most / 20);
        return new int[] {-pick(0, near), pick(0, near)};
    }

    private void seek() {
        int s = system();
        switch (random.nextInt(4)) {
            case 0: {
                int rounds = random.nextInt(4) == 0 ? pick(1, 10) : pick(1, 2);
                call = "improve(" + s + ", " + rounds + ")";
                same(real.improve(s, rounds), ref.improve(s, rounds));
                for (int k = -1; k < 7; k++) {
                    call = "step(" + s + ", " + k + ")";
                    same(real.step(s, k), ref.step(s, k));
                }
                break;
            }
            case 1: {
                int k = pick(0, 5);
                call = "effect(" + s + ", " + k + ")";
                same(real.effect(s, k), ref.effect(s, k));
                break;
            }
            case 2: {
                call = "worst(" + s + ")";
                same(real.worst(s), ref.worst(s));
                call = "worstMerit()";
                same(real.worstMerit(), ref.worstMerit());
                break;
            }
            default: {
                int i = place(s);
                int what = pick(0, 2);
                int[] span = span(what);
                int w = wave();
                int goal = random.nextInt(5) == 0 ? random.nextInt() : random.nextInt(200001) - 100000;
                call = "solve(" + s + ", " + i + ", " + what + ", " + span[0] + ", " + span[1] + ", " + w + ", " + goal + ")";
                same(real.solve(s, i, what, span[0], span[1], w, goal), ref.solve(s, i, what, span[0], span[1], w, goal));
                break;
            }
        }
        everyNumber(s);
    }

    private void everyNumber(int s) {
        for (int i = 0; i < 16; i++) {
            for (int what = 0; what < 4; what++) {
                call = "get(" + s + ", " + i + ", " + what + ")";
                same(real.get(s, i, what), ref.get(s, i, what));
            }
            for (int what = 0; what < 2; what++) {
                call = "kind(" + s + ", " + i + ", " + what + ")";
                same(real.kind(s, i, what), ref.kind(s, i, what));
            }
        }
    }

    private void whole() {
        int s = system();
        int to = pick(0, 7);
        switch (random.nextInt(8)) {
            case 0: {
                call = "reverse(" + s + ", " + to + ")";
                same(one(real.reverse(s, to)), one(ref.reverse(s, to)));
                break;
            }
            case 1: {
                int e = random.nextInt(3) == 0 ? pick(-20, 20) : pick(-2, 2);
                call = "scale(" + s + ", " + to + ", " + e + ")";
                same(one(real.scale(s, to, e)), one(ref.scale(s, to, e)));
                break;
            }
            case 2: {
                int b = pick(0, 7);
                long t = number(2);
                call = "join(" + s + ", " + b + ", " + to + ", " + t + ")";
                same(one(real.join(s, b, to, t)), one(ref.join(s, b, to, t)));
                break;
            }
            case 3: {
                if (random.nextInt(4) == 0) {
                    call = "clear(" + s + ")";
                    same(real.clear(s), ref.clear(s));
                }
                break;
            }
            default: {
                call = "differ(" + s + ", " + to + ")";
                same(real.differ(s, to), ref.differ(s, to));
                break;
            }
        }
        for (int what = -1; what < 5; what++) {
            call = "count(" + to + ", " + what + ")";
            same(real.count(to, what), ref.count(to, what));
        }
        everyNumber(to);
    }
}
