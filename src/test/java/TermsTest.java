import java.math.BigDecimal;

/** The document's Terms, I to VII: each sentence that names a boundary, with the last case on either side of it. */
public final class TermsTest {
    private static final Due DUE = new Due("TermsTest");
    private static final long INFINITE = Benches.bits(Double.POSITIVE_INFINITY);
    private static final int AIR = -1;

    private static long bits(double d) {
        return Benches.bits(d);
    }

    public static void main(String[] args) {
        noughts();
        glassesAtFirst();
        glassesAtTheirEnds();
        linesAndBetween();
        systemsAtFirst();
        raysAtFirst();
        unit();
        missedForD();
        missedForQ();
        signOfB();
        missedForP();
        outside();
        total();
        slopeOfNought();
        lost();
        outcomesWithTheirSurface();
        yAsX();
        bundlesTurned();
        focalAndBackNone();
        bundleOfEachSize();
        bundleOfTinyHeight();
        centreOfOne();
        partsAtTheirEnds();
        meritNotThere();
        improvingAtBounds();
        improvingFirstUp();
        improvingOfEqualMerits();
        halvedToNothing();
        effectsOutOfRange();
        worstOfAll();
        DUE.end();
    }

    /** One SURFACE in SYSTEM 0 of a new bench. */
    private static LensBench single(int glass, boolean mirror, double... numbers) {
        LensBench b = new LensBench();
        Benches.add(b, 0, glass, mirror, numbers);
        return b;
    }

    private static LensBench aimed(LensBench b, double... numbers) {
        Benches.aim(b, 0, numbers);
        return b;
    }

    private static void noughts() {
        DUE.by("I: -0 that comes there becomes 0 (RAYS)");
        LensBench b = aimed(single(AIR, true), -0.0, -0.0, -1, -0.0, -0.0, 1);
        DUE.is("trace(0, 0)", b.trace(0, 0), 0);
        DUE.is("x", b.at(0, 0), 0);
        DUE.is("y", b.at(0, 1), 0);
        DUE.is("K", b.at(0, 3), 0);
        DUE.is("L", b.at(0, 4), 0);
        DUE.by("I: -0 that comes there becomes 0 (SURFACES)");
        b = single(0, false, -0.0, -0.0, -0.0);
        Benches.add(b, 0, AIR, false, -0.0, -0.0, -0.0);
        for (int what = 0; what < 3; what++) {
            DUE.is("get(0, 0, " + what + ")", b.get(0, 0, what), 0);
        }
        DUE.is("reverse(0, 1)", b.reverse(0, 1), true);
        DUE.is("-c of 0 is 0", b.get(1, 0, 0), 0);
        DUE.is("scale(0, 2, 3)", b.scale(0, 2, 3), true);
        DUE.is("c of 0", b.get(2, 0, 0), 0);
        DUE.is("t of 0", b.get(2, 0, 2), 0);
        b.put(0, 0, 0, bits(-Double.MIN_VALUE));
        b.put(0, 0, 2, bits(-Double.MIN_VALUE));
        DUE.is("scale(0, 2, 1)", b.scale(0, 2, 1), true);
        DUE.is("half of the least c is 0", b.get(2, 0, 0), 0);
        DUE.is("twice the least t", b.get(2, 0, 2), bits(-2 * Double.MIN_VALUE));
        DUE.is("scale(0, 2, -1)", b.scale(0, 2, -1), true);
        DUE.is("twice the least c", b.get(2, 0, 0), bits(-2 * Double.MIN_VALUE));
        DUE.is("half of the least t is 0", b.get(2, 0, 2), 0);
        DUE.by("I: -0 that comes there becomes 0 (VARIABLES)");
        b = plano(0.125);
        b.want(0, 1, 0, 1, 1, 100);
        b.vary(0, 0, 2, -500, 500);
        DUE.is("improve(0, 1)", b.improve(0, 1), 1);
        DUE.is("0.125 less 0.125", b.get(0, 0, 2), 0);
    }

    private static void glassesAtFirst() {
        DUE.by("II: 15000000 at first");
        LensBench b = new LensBench();
        for (int g = 0; g < 16; g++) {
            for (int w : RefBench.LINES) {
                DUE.is("index(" + g + ", " + w + ")", b.index(g, w), bits(1.5));
            }
        }
        DUE.by("II: GLASSES 0 .. 15 are there; -1 is air");
        DUE.is("glass of air", b.glass(-1, 0, 15000000), false);
        DUE.is("index(-1, 365)", b.index(-1, 365), bits(1.0));
        DUE.is("index(-1, 1014)", b.index(-1, 1014), bits(1.0));
    }

    private static void glassesAtTheirEnds() {
        DUE.by("II: a whole number N of ten-millionths, 5000001 .. 40000000");
        for (int g = 0; g < 16; g += 15) {
            for (int line = 0; line < 12; line += 11) {
                LensBench b = new LensBench();
                int w = RefBench.LINES[line];
                DUE.is("the least", b.glass(g, line, 5000001), true);
                DUE.is("its INDEX", b.index(g, w), bits(5000001 / 10000000.0));
                DUE.is("less", b.glass(g, line, 5000000), false);
                DUE.is("as it was", b.index(g, w), bits(5000001 / 10000000.0));
                DUE.is("the greatest", b.glass(g, line, 40000000), true);
                DUE.is("its INDEX", b.index(g, w), bits(4.0));
                DUE.is("more", b.glass(g, line, 40000001), false);
                DUE.is("as it was", b.index(g, w), bits(4.0));
                DUE.is("another GLASS", b.index(g == 0 ? 1 : 14, w), bits(1.5));
                DUE.is("another LINE", b.index(g, line == 0 ? 405 : 852), bits(1.5));
            }
        }
    }

    private static void linesAndBetween() {
        DUE.by("II: at a LINE N / 10000000.0; between the LINES a and b next to it");
        int[] lines = RefBench.LINES;
        LensBench b = new LensBench();
        int[] n = new int[12];
        for (int line = 0; line < 12; line++) {
            n[line] = line % 2 == 0 ? 40000000 - line : 5000001 + 777 * line;
            b.glass(15, line, n[line]);
        }
        for (int line = 0; line < 12; line++) {
            DUE.is("at " + lines[line], b.index(15, lines[line]), bits(n[line] / 10000000.0));
            if (line < 11) {
                int from = lines[line];
                int to = lines[line + 1];
                for (int w : new int[] {from + 1, (from + to) / 2, to - 1}) {
                    long above = (long) n[line] * (to - w) + (long) n[line + 1] * (w - from);
                    DUE.is("at " + w, b.index(15, w), bits((double) above / (double) (10000000L * (to - from))));
                }
            }
        }
    }

    private static void systemsAtFirst() {
        DUE.by("III: up to 16 SURFACES each (none at first), from 0 on");
        LensBench b = new LensBench();
        for (int s = 0; s < 8; s += 7) {
            DUE.is("none at first", b.count(s, 0), 0);
            DUE.is("none at first", b.get(s, 0, 3), -1);
            for (int i = 0; i < 16; i++) {
                DUE.is("surface(" + s + ")", b.surface(s), i + 1);
                DUE.is("the new one", b.get(s, i, 3), bits(10));
                DUE.is("none behind it", b.get(s, i + 1, 3), -1);
            }
            DUE.is("a 17th", b.surface(s), -1);
            DUE.is("still 16", b.count(s, 0), 16);
        }
        DUE.by("III: One that is new: c, k, t 0, h 10, air, no MIRROR");
        b.clear(0);
        Benches.add(b, 0, 3, true, 1, 10, 10000, 1000);
        b.clear(0);
        b.surface(0);
        for (int what = 0; what < 4; what++) {
            DUE.is("where another was", b.get(0, 0, what), bits(what == 3 ? 10 : 0));
        }
        DUE.is("where another was", b.kind(0, 0, 0), -1);
        DUE.is("where another was", b.kind(0, 0, 1), 0);
    }

    private static void raysAtFirst() {
        DUE.by("IV: at first 0 0 0 0 0 1, 588");
        LensBench b = single(0, false, 0, 0, 3);
        Benches.add(b, 0, AIR, false);
        b.glass(0, 5, 20000000);
        double[] at = {0, 0, 0, 0, 0, 1, 6};
        for (int r = 0; r < 8; r++) {
            DUE.is("trace(0, " + r + ")", b.trace(0, r), 0);
            for (int what = 0; what < 7; what++) {
                DUE.is("at(1, " + what + ") of RAY " + r, b.at(1, what), bits(at[what]));
            }
        }
        DUE.by("IV: RAYS 0 .. 7, each of its own");
        Benches.aim(b, 7, 1, 2, -3, 0.6, 0, 0.8);
        b.wave(7, 365);
        DUE.is("trace(0, 0)", b.trace(0, 0), 0);
        DUE.is("path of RAY 0", b.at(1, 6), bits(6));
        DUE.is("x of RAY 0", b.at(1, 0), 0);
    }

    private static void isUnit(boolean due, double k, double l, double m) {
        LensBench b = aimed(single(AIR, false), 0, 0, 0, k, l, m);
        b.want(0, 2, 0, 1, 1, 0);
        String name = k + ", " + l + ", " + m;
        DUE.is("trace of " + name, b.trace(0, 0), due ? 0 : -2);
        DUE.is("spot of " + name, b.spot(0, 0, 1), due ? 1 : -1);
        DUE.is("merit of " + name, b.merit(0), due ? 0 : INFINITE);
    }

    private static void unit() {
        DUE.by("IV: UNIT if |((K * K + L * L) + M * M) - 1.0| is not above 2^-40");
        double edge = Math.scalb(1.0, -20);
        isUnit(true, edge, 0, 1);
        isUnit(true, 0, edge, -1);
        isUnit(false, Math.nextUp(edge) * 1.0003, 0, 1);
        isUnit(false, 0, edge * 1.0003, -1);
        double low = 1 - Math.scalb(1.0, -41);
        isUnit(true, 0, 0, low);
        isUnit(true, 0, 0, -low);
        isUnit(false, 0, 0, Math.nextDown(Math.nextDown(low)));
        isUnit(false, 0, 0, 1 - Math.scalb(1.0, -40));
        isUnit(false, 0, 0, 0);
        isUnit(false, 1, 1, 1);
        isUnit(false, -1, -1, -1);
        isUnit(false, 1, 1e-5, 0);
        isUnit(true, 1, 0, 1e-300);
    }

    private static void missedForD() {
        DUE.by("IV: If D is below 0, it is MISSED");
        // Along x at the height of the sphere's vertex it touches there: D is 0.
        LensBench b = aimed(single(0, false, 0.25), 4, 0, 0, 1, 0, 0);
        DUE.is("D is 0", b.trace(0, 0), 0);
        DUE.is("x", b.at(0, 0), 0);
        DUE.is("path", b.at(0, 6), bits(-4));
        double step = Math.scalb(1.0, -51);
        aimed(b, 4, 0, -step);
        DUE.is("D is -2^-52", b.trace(0, 0), 100);
        aimed(b, 4, 0, step);
        DUE.is("D is above 0", b.trace(0, 0), 0);
        aimed(b, 4, 0, -1e6);
        DUE.is("far ahead of it", b.trace(0, 0), 100);
    }

    private static void missedForQ() {
        DUE.by("IV: If q is 0, MISSED");
        for (double m : new double[] {0, Double.MIN_VALUE, -Double.MIN_VALUE}) {
            LensBench b = aimed(single(AIR, false), 1, 0, 0, 1, 0, m);
            DUE.is("in a plane, M " + m, b.trace(0, 0), m == 0 ? 100 : 0);
            DUE.is("x", b.at(0, 0), m == 0 ? -1 : bits(1));
        }
    }

    private static void signOfB() {
        DUE.by("IV: q = B + root(D), if B is below 0 B - root(D)");
        // Inside a sphere, along x from its axis: B is 0, and the way is the one of B + root(D).
        LensBench b = aimed(single(AIR, false, 0.25), 0, 0, 2, 1, 0, 0);
        double c = 0.25 * 4 - 4;
        double x = c / Math.sqrt(-0.25 * c);
        DUE.is("B is 0", b.trace(0, 0), 0);
        DUE.is("x", b.at(0, 0), bits(x));
        aimed(b, Double.MIN_NORMAL, 0, 2);
        DUE.is("B is below 0", b.trace(0, 0), 0);
        DUE.is("x", b.at(0, 0), bits(-x));
        aimed(b, -Double.MIN_NORMAL, 0, 2);
        DUE.is("B is above 0", b.trace(0, 0), 0);
        DUE.is("x", b.at(0, 0), bits(x));
    }

    private static void missedForP() {
        DUE.by("IV: If p is not above 0, MISSED");
        LensBench b = aimed(single(AIR, false, 0.25), 0, 0, 4, 1, 0, 0);
        DUE.is("p is 0", b.trace(0, 0), 100);
        aimed(b, 0, 0, Math.nextDown(4.0));
        DUE.is("p is 2^-53", b.trace(0, 0), 0);
        aimed(b, 0, 0, Math.nextUp(4.0));
        DUE.is("p is -2^-52", b.trace(0, 0), 100);
        aimed(b, 0, 0, 6);
        DUE.is("p is -0.5", b.trace(0, 0), 100);
        b.put(0, 0, 3, bits(1));
        DUE.is("MISSED ahead of OUTSIDE", b.trace(0, 0), 100);
        aimed(b, 0, 0, 2);
        DUE.is("OUTSIDE", b.trace(0, 0), 200);
    }

    private static void isOutside(boolean due, double x, double y, double h) {
        BigDecimal square = new BigDecimal(x).pow(2).add(new BigDecimal(y).pow(2));
        if (square.compareTo(new BigDecimal(h).pow(2)) > 0 != due) {
            throw new IllegalStateException("the test is wrong");
        }
        double[][] signs = {{1, 1}, {-1, 1}, {1, -1}, {-1, -1}};
        for (double[] sign : signs) {
            LensBench b = aimed(single(AIR, false, 0, 0, 0, h), sign[0] * x, sign[1] * y, -1);
            DUE.is(x + ", " + y + " of " + h, b.trace(0, 0), due ? 200 : 0);
            aimed(b, sign[1] * y, sign[0] * x);
            DUE.is(y + ", " + x + " of " + h, b.trace(0, 0), due ? 200 : 0);
        }
    }

    private static void outside() {
        DUE.by("IV: If x x + y y is EXACTLY above h h: OUTSIDE");
        isOutside(false, 3, 4, 5);
        isOutside(true, 3, Math.nextUp(4.0), 5);
        isOutside(true, 3, 4, Math.nextDown(5.0));
        isOutside(false, 1000, 0, 1000);
        isOutside(true, 1000, Double.MIN_VALUE, 1000);
        isOutside(true, Math.nextUp(1000.0), 0, 1000);
        isOutside(false, Double.MIN_VALUE, 0, Double.MIN_VALUE);
        isOutside(true, Double.MIN_VALUE, Double.MIN_VALUE, Double.MIN_VALUE);
        isOutside(true, 2 * Double.MIN_VALUE, 0, Double.MIN_VALUE);
        isOutside(false, 3e-200, 3e-200, 5e-200);
        isOutside(true, 3e-200, 4.1e-200, 5e-200);
        isOutside(true, 1000000, 1000000, 1000);
        // Doubles alone would say otherwise of these.
        isOutside(true, 157.64029947916666, 120.87723214285714, 198.64986602159973);
        isOutside(true, 195.93619791666666, 64.27455357142857, 206.2091459922319);
        isOutside(false, 216.22265625, 84.61928013392857, 232.19099820232037);
    }

    private static void total() {
        DUE.by("IV: If R is below 0: TOTAL");
        double m = 0.6614378277661477;
        LensBench b = aimed(single(0, false), 0, 0, 0, 0.75, 0, m);
        b.glass(0, 5, 7500000);
        DUE.is("R is 0", b.trace(0, 0), 0);
        double ratio = 1.0 / 0.75;
        DUE.is("K", b.at(0, 3), bits(ratio * 0.75 + (0.0 - ratio * m) * 0.0));
        DUE.is("M", b.at(0, 5), bits(ratio * m + (0.0 - ratio * m) * 1.0));
        aimed(b, 0, 0, 0, 0.75, 0, Math.nextDown(m));
        DUE.is("R is -2^-52", b.trace(0, 0), 300);
        DUE.is("not through", b.at(0, 0), -1);
        aimed(b, 0, 0, 0, 0.75, 0, Math.nextUp(m));
        DUE.is("R is above 0", b.trace(0, 0), 0);
    }

    private static void slopeOfNought() {
        DUE.by("IV: If I is below 0, the signs of u, v, p, I are turned");
        LensBench b = aimed(single(0, false, 0.25), 4, 0, 0, 1, 0, 0);
        double ratio = 1.0 / 1.5;
        double f = Math.sqrt(1.0 - (ratio * ratio) * 1.0) - ratio * 0.0;
        DUE.is("I is 0", b.trace(0, 0), 0);
        DUE.is("not turned: M", b.at(0, 5), bits(f));
        b = aimed(single(0, false), 0, 0, 1, 0, 0, -1);
        DUE.is("I is -1", b.trace(0, 0), 0);
        DUE.is("turned: M", b.at(0, 5), bits(-1));
        b = aimed(single(0, false), 0, 0, -1, 0, 0, 1);
        DUE.is("I is 1", b.trace(0, 0), 0);
        DUE.is("not turned: M", b.at(0, 5), bits(1));
    }

    private static void lost() {
        DUE.by("IV: If one is not finite when it is made: LOST, at once (ahead of what is asked of it)");
        // At so small an M its square is 0, so q is M, and s is -2 z / M.
        double m = Math.scalb(1.0, -1020);
        LensBench b = aimed(single(AIR, false), 0, 0, -4, 1, 0, m);
        DUE.is("s is 2^1023: OUTSIDE", b.trace(0, 0), 200);
        aimed(b, 0, 0, -8);
        DUE.is("s is 2^1024", b.trace(0, 0), 400);
        aimed(b, 0, 0, 4);
        DUE.is("s is -2^1023: OUTSIDE", b.trace(0, 0), 200);
        aimed(b, 0, 0, 8);
        DUE.is("s is -2^1024", b.trace(0, 0), 400);
        DUE.is("not through", b.at(0, 0), -1);
        aimed(b, 1000000, -1000000, Math.nextDown(-4.0), 1, 0, m);
        DUE.is("the greatest x", b.trace(0, 0), 200);
        aimed(b, 0, 0, 1e6, -1, 0, Double.MIN_VALUE);
        DUE.is("the least M", b.trace(0, 0), 400);
    }

    private static void outcomesWithTheirSurface() {
        DUE.by("IV: OUTCOMES: 0 through all (also of no SURFACES), 1 MISSED, 2 OUTSIDE, 3 TOTAL, 4 LOST, these with the SURFACE");
        DUE.is("no SURFACES", new LensBench().trace(0, 0), 0);
        for (int last = 0; last < 16; last++) {
            LensBench b = new LensBench();
            b.glass(0, 5, 7500000);
            for (int i = 0; i <= last; i++) {
                Benches.add(b, 0, AIR, false, 0, 0, 0, 1000);
            }
            Benches.aim(b, 0, 9, 0, 0, 0.8, 0, 0.6);
            DUE.is("through " + last, b.trace(0, 0), 0);
            DUE.is("at it", b.at(last, 0), bits(9));
            DUE.is("behind it", b.at(last + 1, 0), -1);
            b.put(0, last, 3, bits(8));
            DUE.is("OUTSIDE", b.trace(0, 0), 200 + last);
            b.put(0, last, 3, bits(9));
            b.behind(0, last, 0, false);
            DUE.is("TOTAL", b.trace(0, 0), 300 + last);
            DUE.is("at it", b.at(last, 0), -1);
            DUE.is("ahead of it", b.at(last - 1, 0), last == 0 ? -1 : bits(9));
            b.put(0, last, 0, bits(0.5));
            DUE.is("MISSED", b.trace(0, 0), 100 + last);
            if (last > 0) {
                // MIRRORS keep so small an M; from air to air it would become 0.
                for (int i = 0; i < last; i++) {
                    b.behind(0, i, AIR, true);
                }
                b.put(0, last, 0, 0L);
                b.put(0, last - 1, 2, bits(8));
                Benches.aim(b, 0, 9, 0, 0, 1, 0, Math.scalb(1.0, -1020));
                DUE.is("LOST", b.trace(0, 0), 400 + last);
            }
        }
    }

    /** Glass, a MIRROR and a plane, with a RAY of these numbers; x and y can change places, and their signs. */
    private static LensBench folded(double... numbers) {
        LensBench b = single(0, false, 0.04, 0.5, 3, 20);
        Benches.add(b, 0, AIR, true, -0.03, -2, -2, 20);
        Benches.add(b, 0, AIR, false, 0.05, 1, -30, 20);
        Benches.add(b, 0, AIR, false, 0, 0, 0, 20);
        return aimed(b, numbers);
    }

    private static void yAsX() {
        DUE.by("IV: so y and L; so L and v");
        double m = Math.sqrt(1 - 0.01 - 0.04);
        LensBench one = folded(3, -1.5, -5, 0.1, 0.2, m);
        LensBench turned = folded(-1.5, 3, -5, 0.2, 0.1, m);
        LensBench less = folded(-3, -1.5, -5, -0.1, 0.2, m);
        DUE.is("trace", one.trace(0, 0), 0);
        DUE.is("with x and y turned", turned.trace(0, 0), 0);
        DUE.is("with -x", less.trace(0, 0), 0);
        int[] others = {1, 0, 2, 4, 3, 5, 6};
        for (int i = 0; i < 4; i++) {
            for (int what = 0; what < 7; what++) {
                DUE.is("at(" + i + ", " + what + ")", turned.at(i, others[what]), one.at(i, what));
                long sign = what == 0 || what == 3 ? Long.MIN_VALUE : 0;
                DUE.is("at(" + i + ", " + what + ") with -x", less.at(i, what), one.at(i, what) ^ sign);
            }
        }
    }

    /** Whichever corner of the BUNDLE goes farthest, first or last: it is found. */
    private static void bundlesTurned() {
        DUE.by("VI: Y likewise; GREATEST, S the greatest a a + b b");
        double m = Math.sqrt(1 - 0.01 - 0.04);
        LensBench one = folded(0, 0, 0, 0.1, 0.2, m);
        one.put(0, 0, 3, bits(4));
        DUE.is("spot", one.spot(0, 0, 2), 4);
        for (int signs = 0; signs < 4; signs++) {
            double k = (signs & 1) == 0 ? 0.1 : -0.1;
            double l = (signs & 2) == 0 ? 0.2 : -0.2;
            LensBench b = folded(0, 0, 0, k, l, m);
            LensBench turned = folded(0, 0, 0, l, k, m);
            b.put(0, 0, 3, bits(4));
            turned.put(0, 0, 3, bits(4));
            DUE.is("spot", b.spot(0, 0, 2), 4);
            DUE.is("spot", turned.spot(0, 0, 2), 4);
            DUE.is("X", b.spotted(0), one.spotted(0) ^ ((signs & 1) == 0 ? 0 : Long.MIN_VALUE));
            DUE.is("Y", b.spotted(1), one.spotted(1) ^ ((signs & 2) == 0 ? 0 : Long.MIN_VALUE));
            DUE.is("X and Y turned", turned.spotted(0), b.spotted(1));
            DUE.is("X and Y turned", turned.spotted(1), b.spotted(0));
            for (int what = 2; what < 4; what++) {
                DUE.is("spotted(" + what + ")", b.spotted(what), one.spotted(what));
                DUE.is("spotted(" + what + ")", turned.spotted(what), one.spotted(what));
            }
        }
    }

    private static void focalAndBackNone() {
        DUE.by("V: infinite, or no number, as it comes: NONE then");
        LensBench b = single(0, false);
        DUE.is("FOCAL of a plane", b.paraxial(0, 588, 0), -1);
        DUE.is("BACK of a plane", b.paraxial(0, 588, 1), -1);
        // u is -c / 3 rounded; 1 / u is finite from 2^-1024 on.
        for (double c : new double[] {Math.scalb(3.0, -1023), Math.scalb(3.0, -1024), Math.scalb(3.0, -1025), Double.MIN_VALUE}) {
            for (double sign = -1; sign < 2; sign += 2) {
                b.put(0, 0, 0, bits(sign * c));
                double u = (1.0 * 0.0 - 1.0 * (sign * c * (1.5 - 1.0))) / 1.5;
                double focal = 0.0 - 1.0 / u;
                long due = Double.isInfinite(focal) ? -1 : bits(focal);
                DUE.is("FOCAL of c " + c, b.paraxial(0, 588, 0), due);
                DUE.is("BACK of c " + c, b.paraxial(0, 588, 1), due);
                DUE.is("u all the same", b.row(0, 1), bits(u));
            }
        }
        DUE.by("V: n2 is, at a MIRROR, -n");
        b = single(5, true, -0.25);
        DUE.is("FOCAL of a MIRROR", b.paraxial(0, 588, 0), bits(-2));
        DUE.is("n", b.row(0, 2), bits(-1));
        b = new LensBench();
        for (int i = 0; i < 16; i++) {
            Benches.add(b, 0, AIR, i == 15, i == 15 ? -0.25 : 0, 0, 10000);
        }
        DUE.by("V: y = y + t * u but for the last one");
        DUE.is("BACK of the full one", b.paraxial(0, 588, 1), bits(-2));
        DUE.is("y at the last", b.row(15, 0), bits(1));
        DUE.is("none behind it", b.row(16, 0), -1);
    }

    private static void bundleOfEachSize() {
        DUE.by("VI: A BUNDLE of n (1 .. 16), as long as x x + y y is EXACTLY not above h h");
        for (int n = 1; n <= 16; n++) {
            for (double h : new double[] {10, 1000, 1.0 / 3}) {
                int all = 0;
                for (int i = 1 - n; i < n; i += 2) {
                    for (int j = 1 - n; j < n; j += 2) {
                        all += i * i + j * j <= n * n ? 1 : 0;
                    }
                }
                LensBench b = single(AIR, false, 0, 0, 0, h);
                DUE.is("spot of " + n, b.spot(0, 0, n), all);
                DUE.is("cut(-1)", b.cut(-1), all);
                DUE.is("X", b.spotted(0), 0);
                DUE.is("Y", b.spotted(1), 0);
                Benches.add(b, 0, AIR, false, 0, 0, 0, Double.MIN_VALUE);
                int passes = n % 2;
                DUE.is("through the least h", b.spot(0, 0, n), passes);
                DUE.is("cut(1)", b.cut(1), all - passes);
                DUE.is("SPREAD", b.spotted(2), passes == 1 ? 0 : -1);
            }
        }
    }

    private static void bundleOfTinyHeight() {
        DUE.by("VI: EXACTLY not above h h, of the least h");
        for (double h : new double[] {Double.MIN_VALUE, 3 * Double.MIN_VALUE, 1e-170, 1e-200}) {
            for (int n : new int[] {2, 3, 4, 16}) {
                int all = 0;
                BigDecimal most = BigDecimal.ZERO;
                BigDecimal sum = BigDecimal.ZERO;
                for (int i = 0; i < n; i++) {
                    for (int j = 0; j < n; j++) {
                        double x = h * ((double) (2 * i + 1 - n) / n);
                        double y = h * ((double) (2 * j + 1 - n) / n);
                        BigDecimal square = new BigDecimal(x).pow(2).add(new BigDecimal(y).pow(2));
                        if (square.compareTo(new BigDecimal(h).pow(2)) <= 0) {
                            all++;
                            most = most.max(square);
                            sum = sum.add(square);
                        }
                    }
                }
                LensBench b = single(AIR, false, 0, 0, 0, h);
                DUE.is("spot of " + n + " at " + h, b.spot(0, 0, n), all);
                DUE.is("cut(-1)", b.cut(-1), all);
                DUE.is("SPREAD", b.spotted(2), bits(Math.sqrt(RefBench.rounded(sum) / all)));
                DUE.is("GREATEST", b.spotted(3), bits(Math.sqrt(RefBench.rounded(most))));
            }
        }
    }

    private static void centreOfOne() {
        DUE.by("VI: CENTRE, of m that PASS");
        LensBench b = single(AIR, false, 0, 0, 5, 10);
        Benches.aim(b, 1, 7, 7, 7, 0.6, 0, 0.8);
        Benches.add(b, 0, AIR, false, 0, 0, 0, 5);
        DUE.is("one PASSES", b.spot(0, 1, 1), 1);
        double s = 10.0 / (0.8 + 0.8);
        DUE.is("X", b.spotted(0), bits(s * 0.6));
        DUE.is("Y", b.spotted(1), 0);
        DUE.is("SPREAD", b.spotted(2), 0);
        DUE.is("GREATEST", b.spotted(3), 0);
        DUE.by("17: -1 when none PASSED");
        b.put(0, 1, 3, bits(3));
        DUE.is("none PASSES", b.spot(0, 1, 1), 0);
        for (int what = 0; what < 4; what++) {
            DUE.is("spotted(" + what + ")", b.spotted(what), -1);
        }
        DUE.by("18: how many were CUT at SURFACE i, -1 how many RAYS there were");
        DUE.is("cut(1)", b.cut(1), 1);
        DUE.is("cut(0)", b.cut(0), 0);
        DUE.is("cut(-1)", b.cut(-1), 1);
        DUE.by("16: NONE: there are no SURFACES; what was spotted stays");
        b.clear(0);
        DUE.is("spot(0, 1, 1)", b.spot(0, 1, 1), -1);
        DUE.is("cut(1)", b.cut(1), 1);
    }

    private static void partsAtTheirEnds() {
        DUE.by("VII: a weight (0 .. 1000) and a goal (-10000 .. 10000)");
        LensBench b = plano(0);
        DUE.is("the least", b.want(0, 0, 7, 1, 0, -10000), 1);
        DUE.is("nothing comes of weight 0", b.merit(0), 0);
        DUE.is("the greatest", b.want(0, 1, 7, 1, 1000, 10000), 2);
        DUE.is("weight * square", b.merit(0), bits(1000.0 * (9900.0 * 9900.0)));
        DUE.is("the least goal", b.want(0, 1, 0, 1, 1, -10000), 3);
        DUE.is("one more", b.merit(0), bits(1000.0 * (9900.0 * 9900.0) + 10100.0 * 10100.0));
        DUE.by("VII: PARTS, up to 8");
        for (int k = 4; k <= 8; k++) {
            DUE.is("more", b.want(0, 2, 0, 16, 1, 0), k);
        }
        long merit = b.merit(0);
        DUE.is("a ninth", b.want(0, 2, 0, 16, 1, 0), -1);
        DUE.is("refused", b.merit(0), merit);
        DUE.is("another SYSTEM", b.want(7, 2, 0, 16, 1, 0), 1);
        DUE.is("clear(0)", b.clear(0), 2);
        DUE.is("room again", b.want(0, 2, 0, 16, 1, 0), 1);
        DUE.by("20: -1: it has no SURFACES");
        DUE.is("PARTS alone", b.merit(0), -1);
    }

    private static void meritNotThere() {
        DUE.by("VII: infinite if a v is not there (NONE, none PASS, the RAY is not UNIT), or it is not finite");
        LensBench b = single(AIR, false, 0, 0, 1);
        DUE.is("no PARTS", b.merit(0), 0);
        b.want(0, 0, 0, 1, 0, 0);
        DUE.is("no FOCAL, weight 0", b.merit(0), INFINITE);
        b = single(AIR, false, 0, 0, 1);
        b.want(0, 1, 0, 1, 1, 0);
        DUE.is("no BACK", b.merit(0), INFINITE);
        b = single(AIR, false, 0, 0, 1);
        Benches.add(b, 0, AIR, false, 0, 0, 0, Double.MIN_VALUE);
        b.want(0, 2, 0, 2, 0, 0);
        DUE.is("none PASS", b.merit(0), INFINITE);
        b.put(0, 1, 3, bits(10));
        DUE.is("all PASS", b.merit(0), 0);
        b.ray(0, 5, bits(0.5));
        DUE.is("not UNIT", b.merit(0), INFINITE);
        // FOCAL is -3 / c here: its square is finite up to 2^1023.
        b = single(0, false);
        b.want(0, 0, 0, 1, 1, 0);
        b.put(0, 0, 0, bits(Math.scalb(3.0, -511)));
        double focal = Benches.number(b.paraxial(0, 588, 0));
        DUE.is("a great square", b.merit(0), bits(focal * focal));
        b.want(0, 0, 0, 1, 4, 0);
        DUE.is("a greater one", b.merit(0), bits(focal * focal + 4.0 * (focal * focal)));
        b.want(0, 0, 0, 1, 16, 0);
        DUE.is("too great a sum", b.merit(0), INFINITE);
        b = single(0, false, Math.scalb(3.0, -514));
        b.want(0, 0, 0, 1, 0, 0);
        DUE.is("an infinite square, weight 0", b.merit(0), INFINITE);
    }

    /** BACK is 100 at t 0, and less by 2 / 3 of t. */
    private static LensBench plano(double t) {
        LensBench b = single(0, false, 0.02, 0, t);
        Benches.add(b, 0, AIR, false);
        return b;
    }

    private static void improvingAtBounds() {
        DUE.by("VII: a = x + STEP, if that is not above high, is tried");
        LensBench b = plano(14);
        b.want(0, 1, 0, 1, 1, 50);
        b.vary(0, 0, 2, 0, 16000);
        DUE.is("16 is tried", b.improve(0, 1), 1);
        DUE.is("t", b.get(0, 0, 2), bits(16));
        DUE.is("18 is not", b.improve(0, 1), 0);
        DUE.is("t", b.get(0, 0, 2), bits(16));
        DUE.is("STEP", b.step(0, 0), bits(1));
        b.put(0, 0, 2, bits(Math.nextUp(16.0) - 1.0));
        DUE.is("a little above 16 is not", b.improve(0, 1), 0);
        DUE.is("STEP", b.step(0, 0), bits(0.5));
        DUE.by("VII: a = x - STEP, if that is not below low, likewise");
        b = plano(2);
        b.want(0, 1, 0, 1, 1, 200);
        b.vary(0, 0, 2, 0, 16000);
        DUE.is("0 is tried", b.improve(0, 1), 1);
        DUE.is("t", b.get(0, 0, 2), 0);
        DUE.is("-2 is not", b.improve(0, 1), 0);
        DUE.is("STEP", b.step(0, 0), bits(1));
        b.put(0, 0, 2, bits(Math.nextDown(1.0)));
        DUE.is("a little below 0 is not", b.improve(0, 1), 0);
        DUE.is("STEP", b.step(0, 0), bits(0.5));
        DUE.by("22: a VARIABLE's number is not within its bounds");
        double[][] bounds = {{0, 0}, {16, 0}, {-Double.MIN_VALUE, -1}, {Math.nextUp(16.0), -1}, {-10000, -1}, {10000, -1}};
        for (double[] bound : bounds) {
            b = plano(bound[0]);
            b.want(0, 0, 0, 1, 1, 0);
            b.vary(0, 0, 2, 0, 16000);
            b.vary(0, 1, 1, -1, 1);
            DUE.is("t " + bound[0], b.improve(0, 10), (long) bound[1]);
            DUE.is("t stays", b.get(0, 0, 2), bits(bound[0]));
            DUE.is("STEP", b.step(0, 0), bits(bound[1] == 0 ? Math.scalb(2.0, -10) : 2));
        }
    }

    private static void improvingFirstUp() {
        DUE.by("VII: a = x + STEP is tried, else a = x - STEP");
        // Two lenses of 100 have no FOCAL 200 apart, and a great one near there: on either side it is less.
        LensBench b = single(0, false, 0.02);
        Benches.add(b, 0, AIR, false, 0, 0, 200.0625);
        Benches.add(b, 0, 0, false, 0.02);
        Benches.add(b, 0, AIR, false);
        b.want(0, 0, 0, 1, 1, 0);
        b.vary(0, 1, 2, 196000, 204000);
        double now = Benches.number(b.merit(0));
        b.put(0, 1, 2, bits(201.0625));
        DUE.is("less above", Benches.number(b.merit(0)) < now, true);
        b.put(0, 1, 2, bits(199.0625));
        DUE.is("less below", Benches.number(b.merit(0)) < now, true);
        b.put(0, 1, 2, bits(200.0625));
        DUE.is("improve", b.improve(0, 1), 1);
        DUE.is("t", b.get(0, 1, 2), bits(201.0625));
        DUE.is("STEP", b.step(0, 0), bits(1));
    }

    private static void improvingOfEqualMerits() {
        DUE.by("VII: if the MERIT with it is below what it is now, it stays");
        LensBench b = plano(3);
        b.want(0, 0, 0, 1, 1, 0);
        b.vary(0, 1, 1, -10000, 10000);
        DUE.is("an equal MERIT is not below", b.improve(0, 1), 0);
        DUE.is("k", b.get(0, 1, 1), 0);
        DUE.is("STEP", b.step(0, 0), bits(1.25));
        DUE.by("VII: one that is infinite is not below");
        b = plano(3);
        b.want(0, 0, 0, 1, 1, 10000);
        b.vary(0, 0, 0, -60, 100);
        DUE.is("c 0.04, then 0", b.improve(0, 1), 0);
        DUE.is("c", b.get(0, 0, 0), bits(0.02));
        DUE.by("22: Up to so many rounds (1 .. 10)");
        b = plano(0);
        b.want(0, 1, 0, 1, 1, 50);
        b.vary(0, 0, 2, 0, 16000);
        DUE.is("ten rounds, eight of them move it", b.improve(0, 10), 8);
        DUE.is("t", b.get(0, 0, 2), bits(16));
        DUE.is("two halved", b.step(0, 0), bits(0.5));
        DUE.is("no VARIABLES", plano(0).improve(0, 10), 0);
        DUE.by("VII: VARIABLES, up to 6");
        b = plano(0);
        b.want(0, 1, 0, 1, 1, 90);
        for (int k = 0; k < 6; k++) {
            DUE.is("vary", b.vary(0, 0, 2, 0, 8000 * (k + 1)), k + 1);
        }
        DUE.is("a seventh", b.vary(0, 0, 2, 0, 8000), -1);
        DUE.is("each moves it", b.improve(0, 1), 5);
        DUE.is("1 + 2 + 3 + 4 + 5", b.get(0, 0, 2), bits(15));
        DUE.is("the sixth does not", b.step(0, 5), bits(3));
        DUE.is("the fifth", b.step(0, 4), bits(5));
    }

    private static void halvedToNothing() {
        DUE.by("VII: STEP = STEP * 0.5 (until it is 0)");
        LensBench b = plano(3);
        b.vary(0, 0, 2, 0, 8000);
        for (int k = 0; k < 107; k++) {
            DUE.is("no PARTS, so none is better", b.improve(0, 10), 0);
        }
        DUE.is("2^-1070", b.step(0, 0), 16);
        b.improve(0, 4);
        DUE.is("the least", b.step(0, 0), 1);
        b.improve(0, 1);
        DUE.is("nothing", b.step(0, 0), 0);
        DUE.is("still", b.improve(0, 10), 0);
        DUE.is("still", b.step(0, 0), 0);
        DUE.is("t", b.get(0, 0, 2), bits(3));
    }

    private static void effectsOutOfRange() {
        DUE.by("VII: the number may leave its range");
        LensBench b = plano(0);
        b.want(0, 0, 0, 1, 1, 0);
        b.tolerance(0, 0, 0, Integer.MAX_VALUE);
        b.tolerance(0, 0, 0, Integer.MIN_VALUE);
        b.tolerance(0, 0, 2, Integer.MAX_VALUE);
        b.tolerance(0, 0, 1, Integer.MIN_VALUE);
        b.tolerance(0, 1, 2, 1);
        b.tolerance(0, 1, 1, -1);
        double merit = Benches.number(b.merit(0));
        for (int k = 0; k < 2; k++) {
            double c = 0.02 + (k == 0 ? Integer.MAX_VALUE : Integer.MIN_VALUE) / 1000000.0;
            double u = (1.0 * 0.0 - 1.0 * (c * (1.5 - 1.0))) / 1.5;
            u = (1.5 * u - (1.0 + 0.0 * u) * (0.0 * (1.0 - 1.5))) / 1.0;
            double focal = 0.0 - 1.0 / u;
            DUE.is("effect(0, " + k + ")", b.effect(0, k), bits(focal * focal - merit));
        }
        for (int k = 2; k < 6; k++) {
            DUE.is("effect(0, " + k + ")", b.effect(0, k), 0);
        }
        DUE.is("effect(0, 6)", b.effect(0, 6), -1);
        DUE.is("c as it was", b.get(0, 0, 0), bits(0.02));
        DUE.by("VII: TOLERANCES, up to 6");
        DUE.is("a seventh", b.tolerance(0, 1, 1, 1), -1);
        DUE.is("six", b.count(0, 3), 6);
    }

    private static void worstOfAll() {
        DUE.by("VII: bit k of a number from 0 on is 1: less");
        LensBench b = plano(0);
        b.want(0, 1, 0, 1, 1, 0);
        for (int k = 0; k < 6; k++) {
            DUE.is("tolerance", b.tolerance(0, 0, 2, k % 2 == 0 ? 1000 : -1000), k + 1);
        }
        DUE.is("less of 0, 2 and 4", b.worst(0), 21);
        b = plano(0);
        b.want(0, 1, 0, 1, 1, 0);
        for (int k = 0; k < 6; k++) {
            b.tolerance(0, 0, 2, 1000);
        }
        DUE.is("less of all", b.worst(0), 63);
        double t = 0.0;
        for (int k = 0; k < 6; k++) {
            t = t - 1000 / 1000000.0;
        }
        long worst = b.worstMerit();
        b.put(0, 0, 2, bits(t));
        DUE.is("its MERIT", worst, b.merit(0));
        DUE.by("VII: the first of several");
        b = plano(0);
        b.want(0, 1, 0, 1, 1, 0);
        for (int k = 0; k < 6; k++) {
            b.tolerance(0, 1, 1, 1000);
        }
        DUE.is("all are the same", b.worst(0), 0);
        DUE.is("the MERIT", b.worstMerit(), b.merit(0));
        DUE.by("VII: the greatest MERIT (infinite is so)");
        b = plano(0);
        b.want(0, 1, 0, 1, 1, 0);
        b.tolerance(0, 0, 2, 1000000);
        b.tolerance(0, 0, 0, 20000);
        b.tolerance(0, 0, 1, 1);
        DUE.is("c 0, the first", b.worst(0), 2);
        DUE.is("infinite", b.worstMerit(), INFINITE);
        DUE.by("27: -1 ahead of any; of the latest worst() that was not refused");
        LensBench c = new LensBench();
        DUE.is("ahead of any", c.worstMerit(), -1);
        DUE.is("refused", c.worst(0), -1);
        DUE.is("still", c.worstMerit(), -1);
        c.surface(0);
        DUE.is("no PARTS, no TOLERANCES", c.worst(0), 0);
        DUE.is("nought", c.worstMerit(), 0);
    }
}
