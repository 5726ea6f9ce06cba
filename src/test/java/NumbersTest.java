import java.math.BigDecimal;
import java.util.Random;

/** LensBench's bits, roots and exact sums against the Java library's. */
public final class NumbersTest {
    private static int wrong = 0;
    private static final Random RANDOM = new Random(20261118);
    private static final LensBench.Numbers NUMBERS = new LensBench.Numbers();
    private static final LensBench.ExactSum SUM = new LensBench.ExactSum(NUMBERS);

    private static void same(String what, double got, double due) {
        if (Double.doubleToRawLongBits(got) != Double.doubleToRawLongBits(due) && wrong++ < 20) {
            System.out.println(what + " answered " + got + ", due is " + due);
        }
    }

    private static double anyFinite() {
        while (true) {
            double d = Double.longBitsToDouble(RANDOM.nextLong());
            if (!Double.isNaN(d) && !Double.isInfinite(d)) {
                return d;
            }
        }
    }

    private static double ordinary(int from, int to) {
        return (RANDOM.nextDouble() - 0.5) * Math.pow(2, from + RANDOM.nextInt(to - from + 1));
    }

    public static void main(String[] args) {
        bits();
        powers();
        roots();
        sums();
        limits();
        System.out.println(wrong == 0 ? "NumbersTest: all as due" : "NumbersTest: " + wrong + " wrong");
        if (wrong != 0) {
            System.exit(1);
        }
    }

    private static void bits() {
        double[] edges = {Double.MIN_VALUE, Double.MIN_NORMAL, Math.nextDown(Double.MIN_NORMAL), Double.MAX_VALUE, 1.0, 0.0,
            Math.pow(2, 52), Math.pow(2, 53), Math.nextDown(Math.pow(2, 52)), 1e-150, Math.nextDown(1e-150)};
        for (int i = 0; i < 200000 + edges.length; i++) {
            double d = i < edges.length ? edges[i] : i % 9 == 0 ? Double.longBitsToDouble(RANDOM.nextLong() >>> 12) : anyFinite();
            long b = Double.doubleToRawLongBits(d);
            if (d != 0.0) {
                same("fromBits", NUMBERS.fromBits(b), d);
            }
            if (NUMBERS.toBits(d) != b || NUMBERS.toBits(-d) != Double.doubleToRawLongBits(-d) || !NUMBERS.isFinite(b)) {
                same("toBits", Double.longBitsToDouble(NUMBERS.toBits(d)), d);
                wrong++;
            }
        }
        same("fromBits(-0)", NUMBERS.fromBits(Double.doubleToRawLongBits(-0.0)), 0.0);
        same("toBits(infinity)", Double.longBitsToDouble(NUMBERS.toBits(Double.POSITIVE_INFINITY)), Double.POSITIVE_INFINITY);
        for (double d : new double[] {Double.NaN, Double.POSITIVE_INFINITY, Double.NEGATIVE_INFINITY}) {
            if (NUMBERS.isFinite(Double.doubleToRawLongBits(d))) {
                wrong++;
                System.out.println("isFinite of " + d);
            }
        }
    }

    private static void powers() {
        for (int e = -1074; e <= 1023; e++) {
            same("power(" + e + ")", NUMBERS.power(e), Math.scalb(1.0, e));
        }
    }

    private static void roots() {
        same("root(0)", NUMBERS.root(0.0), 0.0);
        for (int i = 0; i < 3000000; i++) {
            double d;
            switch (i % 6) {
                case 0: d = Math.abs(anyFinite()); break;
                case 1: d = 1.0 + RANDOM.nextDouble() * 3.0; break;
                case 2: d = RANDOM.nextDouble(); break;
                case 3: d = Double.longBitsToDouble(RANDOM.nextLong() >>> (12 + RANDOM.nextInt(50))); break;
                case 4: {
                    // About the squares of numbers of up to 27 bits, and about halves between roots.
                    double r = RANDOM.nextInt(1 << 27);
                    d = Math.scalb(r * r, RANDOM.nextInt(41) - 20);
                    d = RANDOM.nextBoolean() ? d : RANDOM.nextBoolean() ? Math.nextUp(d) : Math.abs(Math.nextDown(d));
                    break;
                }
                default: {
                    double r = 1.0 + RANDOM.nextDouble();
                    d = r * r;
                    break;
                }
            }
            same("root(" + d + ")", NUMBERS.root(d), Math.sqrt(d));
        }
        for (double d : new double[] {1.0, 4.0, 2.0, 0.25, Math.nextDown(1.0), Math.nextDown(4.0), Math.nextUp(1.0), Double.MAX_VALUE,
            Double.MIN_VALUE, Double.MIN_NORMAL, Math.nextDown(2.0), Math.nextUp(2.0)}) {
            same("root(" + d + ")", NUMBERS.root(d), Math.sqrt(d));
        }
    }

    private static void sums() {
        for (int i = 0; i < 6000; i++) {
            int size = 1 + RANDOM.nextInt(i % 10 == 0 ? 512 : 6);
            int from = i % 4 == 0 ? -1074 : i % 4 == 1 ? -560 : -60;
            int to = i % 3 == 0 ? from + 5 : 10;
            boolean squares = RANDOM.nextBoolean();
            SUM.empty();
            BigDecimal due = BigDecimal.ZERO;
            for (int k = 0; k < size; k++) {
                double d = ordinary(from, to);
                if (squares) {
                    boolean less = RANDOM.nextInt(3) == 0;
                    SUM.addSquare(d, less);
                    due = less ? due.subtract(new BigDecimal(d).pow(2)) : due.add(new BigDecimal(d).pow(2));
                } else {
                    SUM.add(d);
                    due = due.add(new BigDecimal(d));
                    if (RANDOM.nextInt(4) == 0) {
                        SUM.add(-d);
                        due = due.subtract(new BigDecimal(d));
                    }
                }
            }
            // Where squares are taken away a tiny sum may round to -0: the bench never does that.
            same("a sum", SUM.nearest(), RefBench.rounded(due) + 0.0);
        }
        ties();
    }

    private static void ties() {
        double half = Math.scalb(1.0, -53);
        double[][] sums = {
            {1.0, half}, {1.0, half, Double.MIN_VALUE}, {1.0, half, -Double.MIN_VALUE}, {Math.nextUp(1.0), half},
            {-1.0, -half}, {2.0, -half, -half / 2}, {1.0, -1.0}, {1000.0, -1000.0, Double.MIN_VALUE}, {Math.nextDown(2.0), half},
            {Double.MIN_VALUE, Double.MIN_VALUE}, {1.0, -half / 2}, {1.0, -half / 2, -Double.MIN_VALUE}
        };
        for (double[] row : sums) {
            SUM.empty();
            BigDecimal due = BigDecimal.ZERO;
            for (double d : row) {
                SUM.add(d);
                due = due.add(new BigDecimal(d));
            }
            same("a tie", SUM.nearest(), RefBench.rounded(due));
        }
    }

    private static void limits() {
        double[] scales = {1.0, 1e-3, 1e-100, 1e-150, 1e-160, 1e-300, Double.MIN_VALUE};
        for (int i = 0; i < 60000; i++) {
            double scale = scales[i % scales.length];
            int a = RANDOM.nextInt(40) - 20;
            int b = RANDOM.nextInt(40) - 20;
            int c = 1 + RANDOM.nextInt(30);
            double x = a * scale;
            double y = b * scale;
            double h = i % 3 == 0 ? Math.sqrt(x * x + y * y) : c * scale;
            h = h == 0 ? c * scale : RANDOM.nextInt(4) == 0 ? Math.nextUp(h) : h;
            if (SUM.isBeyond(x, y, h) != RefBench.beyond(x, y, h)) {
                wrong++;
                System.out.println("isBeyond " + x + " " + y + " " + h);
            }
        }
        for (int[] t : new int[][] {{3, 4, 5}, {5, 12, 13}, {8, 15, 17}, {20, 21, 29}, {-7, 24, 25}}) {
            boolean at = SUM.isBeyond(t[0], t[1], t[2]);
            boolean above = SUM.isBeyond(t[0], Math.nextUp((double) t[1]), t[2]);
            if (at || !above) {
                wrong++;
                System.out.println("isBeyond at " + t[2]);
            }
        }
        // Where squares are below the normal ones: 3, 4, 5 times a number of 26 bits.
        for (int i = 0; i < 2000; i++) {
            double m = Math.scalb((double) ((1 << 25) + RANDOM.nextInt(1 << 25)), -540 - 25 - i % 20);
            if (SUM.isBeyond(3 * m, 4 * m, 5 * m) || !SUM.isBeyond(3 * m, Math.nextUp(4 * m), 5 * m)
                || !SUM.isBeyond(-Math.nextUp(3 * m), 4 * m, 5 * m)) {
                wrong++;
                System.out.println("isBeyond at 3, 4, 5 times " + m);
            }
        }
        if (!SUM.isBeyond(Double.MAX_VALUE, 0, 1000.0) || !SUM.isBeyond(0, -Double.MAX_VALUE, Double.MIN_VALUE)) {
            wrong++;
            System.out.println("isBeyond of great ones");
        }
    }
}
