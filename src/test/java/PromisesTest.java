/** Each promise by hand: ordinary inputs, the edges that the document names, wrong inputs. */
public final class PromisesTest {
    private static final int[] NO_SYSTEM = {-1, 8, Integer.MIN_VALUE, Integer.MAX_VALUE};
    private static final long INFINITE = bits(Double.POSITIVE_INFINITY);
    private static int wrong = 0;
    private static int asked = 0;

    private static long bits(double d) {
        return Double.doubleToRawLongBits(d);
    }

    private static void due(int promise, String call, long got, long want) {
        asked++;
        if (got != want) {
            wrong++;
            System.out.println("promise " + promise + ": " + call + " answered " + got + ", due is " + want
                + " (as numbers " + Double.longBitsToDouble(got) + ", " + Double.longBitsToDouble(want) + ")");
        }
    }

    private static void due(int promise, String call, boolean got, boolean want) {
        due(promise, call, got ? 1L : 0L, want ? 1L : 0L);
    }

    private static void near(int promise, String call, long got, double want) {
        asked++;
        double d = Double.longBitsToDouble(got);
        if (!(Math.abs(d - want) <= 1e-9 * (1 + Math.abs(want)))) {
            wrong++;
            System.out.println("promise " + promise + ": " + call + " answered " + d + ", due is about " + want);
        }
    }

    /** One surface more with these numbers. */
    private static void add(LensBench b, int s, double c, double k, double t, double h, int glass, boolean mirror) {
        int i = b.surface(s) - 1;
        boolean fine = b.put(s, i, 0, bits(c)) & b.put(s, i, 1, bits(k)) & b.put(s, i, 2, bits(t)) & b.put(s, i, 3, bits(h))
            & b.behind(s, i, glass, mirror);
        due(6, "a surface can be put", fine, true);
    }

    private static void aim(LensBench b, int r, double... numbers) {
        for (int what = 0; what < numbers.length; what++) {
            due(10, "ray(" + r + ", " + what + ")", b.ray(r, what, bits(numbers[what])), true);
        }
    }

    /** A lens with BACK = 100 - t * 2 / 3: glass 0 (1.5) behind c = 0.02, then a plane. */
    private static LensBench plano(double t) {
        LensBench b = new LensBench();
        add(b, 0, 0.02, 0, t, 10, 0, false);
        add(b, 0, 0, 0, 0, 10, -1, false);
        return b;
    }

    public static void main(String[] args) {
        newObject();
        glassAndIndex();
        surfaceAndClear();
        putAndGet();
        behindAndKind();
        rayAndWave();
        tracePlanes();
        traceOutcomes();
        traceCurved();
        traceUnit();
        atKeepsTheLatest();
        paraxialAndRow();
        spotSpottedCut();
        spotRefused();
        wantAndMerit();
        meritInfinite();
        meritLeavesTheRest();
        varyAndStep();
        improveByHand();
        improveRefused();
        toleranceAndEffect();
        worstAndItsMerit();
        solveByHand();
        reverse();
        scale();
        join();
        differAndCount();
        System.out.println(wrong == 0 ? "PromisesTest: " + asked + " answers as due" : "PromisesTest: " + wrong + " of " + asked + " wrong");
        if (wrong != 0) {
            System.exit(1);
        }
    }

    private static void newObject() {
        LensBench b = new LensBench();
        for (int s = 0; s < 8; s++) {
            for (int what = 0; what < 4; what++) {
                due(1, "count(" + s + ", " + what + ")", b.count(s, what), 0);
            }
            due(1, "get(" + s + ", 0, 0)", b.get(s, 0, 0), -1);
            due(1, "merit(" + s + ")", b.merit(s), -1);
            due(1, "worst(" + s + ")", b.worst(s), -1);
            due(1, "trace(" + s + ", 7)", b.trace(s, 7), 0);
            due(1, "at(0, 0)", b.at(0, 0), -1);
        }
        due(1, "row(0, 0)", b.row(0, 0), -1);
        due(1, "spotted(0)", b.spotted(0), -1);
        due(1, "cut(-1)", b.cut(-1), 0);
        due(1, "worstMerit()", b.worstMerit(), -1);
        due(1, "NONE", LensBench.NONE, -1);
    }

    private static void glassAndIndex() {
        LensBench b = new LensBench();
        for (int g = 0; g < 16; g++) {
            due(3, "index at first", b.index(g, 700), bits(1.5));
        }
        due(2, "glass(15, 0)", b.glass(15, 0, 16000000), true);
        due(2, "glass(15, 1)", b.glass(15, 1, 15000001), true);
        due(3, "index at a line", b.index(15, 365), bits(16000000 / 10000000.0));
        due(3, "index at a line", b.index(15, 405), bits(15000001 / 10000000.0));
        due(3, "index between", b.index(15, 372), bits((16000000.0 * 33 + 15000001.0 * 7) / 400000000.0));
        due(3, "index between", b.index(15, 404), bits((16000000.0 + 15000001.0 * 39) / 400000000.0));
        due(3, "index behind", b.index(15, 406), bits((15000001.0 * 30 + 15000000.0) / 310000000.0));
        due(2, "glass(15, 11)", b.glass(15, 11, 40000000), true);
        due(3, "index at the last line", b.index(15, 1014), bits(4.0));
        due(3, "index ahead of it", b.index(15, 1013), bits((15000000.0 + 40000000.0 * 161) / 1620000000.0));
        for (int[] bad : new int[][] {{-1, 0, 15000000}, {16, 0, 15000000}, {0, -1, 15000000}, {0, 12, 15000000}, {0, 0, 5000000},
            {0, 0, 40000001}, {0, 0, -1}, {Integer.MAX_VALUE, 0, 15000000}, {0, Integer.MIN_VALUE, 15000000}}) {
            due(2, "a glass that can't be", b.glass(bad[0], bad[1], bad[2]), false);
        }
        due(2, "refused changes nothing", b.index(0, 365), bits(1.5));
        due(2, "least N", b.glass(1, 0, 5000001), true);
        due(3, "least index", b.index(1, 365), bits(5000001 / 10000000.0));
        due(3, "air", b.index(-1, 365), bits(1.0));
        due(3, "air", b.index(-1, 1014), bits(1.0));
        for (int[] bad : new int[][] {{-2, 588}, {16, 588}, {0, 364}, {0, 1015}, {-1, 364}, {-1, 1015}, {0, -588}, {Integer.MIN_VALUE, 588}}) {
            due(3, "index(" + bad[0] + ", " + bad[1] + ")", b.index(bad[0], bad[1]), -1);
        }
    }

    private static void surfaceAndClear() {
        LensBench b = new LensBench();
        for (int i = 1; i <= 16; i++) {
            due(4, "surface(3)", b.surface(3), i);
        }
        due(4, "a 17th", b.surface(3), -1);
        due(4, "another system", b.surface(4), 1);
        for (int s : NO_SYSTEM) {
            due(4, "surface(" + s + ")", b.surface(s), -1);
            due(5, "clear(" + s + ")", b.clear(s), -1);
        }
        for (int what = 0; what < 4; what++) {
            due(4, "a new one", b.get(3, 15, what), bits(what == 3 ? 10.0 : 0.0));
        }
        due(4, "a new one has air", b.kind(3, 15, 0), -1);
        due(4, "a new one is no mirror", b.kind(3, 15, 1), 0);
        b.put(3, 0, 0, bits(0.5));
        b.put(3, 0, 3, bits(3));
        b.behind(3, 0, 4, true);
        b.want(3, 0, 0, 1, 1, 1);
        b.vary(3, 0, 0, 0, 1);
        b.tolerance(3, 0, 0, 1);
        due(5, "clear(3)", b.clear(3), 16);
        for (int what = 0; what < 4; what++) {
            due(5, "all gone", b.count(3, what), 0);
        }
        due(5, "clear(3) again", b.clear(3), 0);
        due(5, "another stays", b.count(4, 0), 1);
        due(4, "surface(3)", b.surface(3), 1);
        due(4, "new again", b.get(3, 0, 0), bits(0.0));
        due(4, "new again", b.get(3, 0, 3), bits(10.0));
        due(4, "new again", b.kind(3, 0, 0), -1);
        due(4, "new again", b.kind(3, 0, 1), 0);
    }

    private static void putAndGet() {
        LensBench b = new LensBench();
        b.surface(0);
        double[] most = {1, 10, 10000, 1000};
        for (int what = 0; what < 4; what++) {
            due(6, "the most", b.put(0, 0, what, bits(most[what])), true);
            due(8, "the most", b.get(0, 0, what), bits(most[what]));
            due(6, "more", b.put(0, 0, what, bits(Math.nextUp(most[what]))), false);
            due(6, "the least", b.put(0, 0, what, bits(-most[what])), what < 3);
            due(8, "the least", b.get(0, 0, what), bits(what < 3 ? -most[what] : most[what]));
            due(6, "less", b.put(0, 0, what, bits(Math.nextDown(-most[what]))), false);
            due(6, "0", b.put(0, 0, what, 0L), what < 3);
            due(6, "-0", b.put(0, 0, what, bits(-0.0)), what < 3);
            due(8, "-0 is 0", b.get(0, 0, what), what < 3 ? 0L : bits(1000));
            due(6, "the least above 0", b.put(0, 0, what, 1L), true);
            due(8, "the least above 0", b.get(0, 0, what), 1L);
            due(6, "the greatest below 0", b.put(0, 0, what, bits(-Double.MIN_VALUE)), what < 3);
            for (double d : new double[] {Double.NaN, Double.POSITIVE_INFINITY, Double.NEGATIVE_INFINITY, Double.MAX_VALUE}) {
                due(6, "what is none", b.put(0, 0, what, bits(d)), false);
            }
            due(6, "another NaN", b.put(0, 0, what, -1L), false);
            due(6, "another NaN", b.put(0, 0, what, 0x7ff0000000000001L), false);
        }
        long one = bits(0.5);
        due(6, "no surface", b.put(0, 1, 0, one), false);
        due(6, "no surface", b.put(0, -1, 0, one), false);
        due(6, "no surface", b.put(1, 0, 0, one), false);
        due(6, "no such what", b.put(0, 0, 4, one), false);
        due(6, "no such what", b.put(0, 0, -1, one), false);
        due(8, "no surface", b.get(0, 1, 0), -1);
        due(8, "no surface", b.get(0, Integer.MIN_VALUE, 0), -1);
        due(8, "no such what", b.get(0, 0, 4), -1);
        due(8, "no such what", b.get(0, 0, -1), -1);
        for (int s : NO_SYSTEM) {
            due(6, "no system", b.put(s, 0, 0, one), false);
            due(8, "no system", b.get(s, 0, 0), -1);
        }
    }

    private static void behindAndKind() {
        LensBench b = new LensBench();
        b.surface(2);
        for (int g = -1; g < 16; g++) {
            due(7, "behind", b.behind(2, 0, g, g % 2 == 0), true);
            due(9, "glass", b.kind(2, 0, 0), g);
            due(9, "mirror", b.kind(2, 0, 1), g % 2 == 0 ? 1 : 0);
        }
        for (boolean mirror : new boolean[] {false, true}) {
            due(7, "no glass", b.behind(2, 0, 16, mirror), false);
            due(7, "no glass", b.behind(2, 0, -2, mirror), false);
            due(7, "no surface", b.behind(2, 1, 0, mirror), false);
            due(7, "no surface", b.behind(2, -1, 0, mirror), false);
        }
        due(7, "nothing changed", b.kind(2, 0, 0), 15);
        due(7, "nothing changed", b.kind(2, 0, 1), 0);
        due(9, "no what", b.kind(2, 0, 2), -2);
        due(9, "no what", b.kind(2, 0, -1), -2);
        due(9, "no surface", b.kind(2, 1, 0), -2);
        due(9, "no surface", b.kind(2, -1, 1), -2);
        for (int s : NO_SYSTEM) {
            due(7, "no system", b.behind(s, 0, 0, false), false);
            due(9, "no system", b.kind(s, 0, 0), -2);
        }
    }

    private static void rayAndWave() {
        LensBench b = new LensBench();
        for (int what = 0; what < 6; what++) {
            double most = what < 3 ? 1000000 : 1;
            due(10, "the most", b.ray(7, what, bits(most)), true);
            due(10, "more", b.ray(7, what, bits(Math.nextUp(most))), false);
            due(10, "the least", b.ray(7, what, bits(-most)), true);
            due(10, "less", b.ray(7, what, bits(Math.nextDown(-most))), false);
            due(10, "-0", b.ray(7, what, bits(-0.0)), true);
            due(10, "NaN", b.ray(7, what, bits(Double.NaN)), false);
            due(10, "infinite", b.ray(7, what, bits(Double.NEGATIVE_INFINITY)), false);
        }
        due(10, "no what", b.ray(7, 6, 0L), false);
        due(10, "no what", b.ray(7, -1, 0L), false);
        for (int r : NO_SYSTEM) {
            due(10, "no ray", b.ray(r, 0, 0L), false);
            due(11, "no ray", b.wave(r, 588), false);
        }
        due(11, "wave", b.wave(7, 365), true);
        due(11, "wave", b.wave(7, 1014), true);
        due(11, "wave", b.wave(7, 364), false);
        due(11, "wave", b.wave(7, 1015), false);
        due(11, "wave", b.wave(7, -365), false);
        LensBench c = new LensBench();
        c.glass(0, 0, 20000000);
        add(c, 0, 0, 0, 3, 10, 0, false);
        add(c, 0, 0, 0, 0, 10, -1, false);
        due(11, "at first 588", c.trace(0, 0), 0);
        due(11, "path at 588", c.at(1, 6), bits(4.5));
        c.wave(0, 365);
        due(11, "through", c.trace(0, 0), 0);
        due(11, "path at 365", c.at(1, 6), bits(6.0));
        c.wave(0, 1015);
        c.trace(0, 0);
        due(11, "refused changes nothing", c.at(1, 6), bits(6.0));
    }

    private static void tracePlanes() {
        LensBench b = new LensBench();
        add(b, 0, 0, 0, 3, 10, 0, false);
        add(b, 0, 0, 0, 5, 10, -1, false);
        add(b, 0, 0, 0, 0, 10, -1, true);
        aim(b, 1, 1, 2, -4, 0, 0, 1);
        due(12, "through a slab to a mirror", b.trace(0, 1), 0);
        double[][] at = {{1, 2, 0, 0, 0, 1, 4}, {1, 2, 0, 0, 0, 1, 8.5}, {1, 2, 0, 0, 0, -1, 13.5}};
        for (int i = 0; i < 3; i++) {
            for (int what = 0; what < 7; what++) {
                due(13, "at(" + i + ", " + what + ")", b.at(i, what), bits(at[i][what]));
            }
        }
        for (int[] bad : new int[][] {{-1, 0}, {3, 0}, {16, 0}, {0, -1}, {0, 7}, {Integer.MAX_VALUE, 0}, {0, Integer.MIN_VALUE}}) {
            due(13, "at(" + bad[0] + ", " + bad[1] + ")", b.at(bad[0], bad[1]), -1);
        }
        aim(b, 2, 0, 0, 0, 0.6, 0, 0.8);
        due(12, "a slanting ray", b.trace(0, 2), 0);
        double m = 1.0 / 1.5;
        double f = Math.sqrt(1.0 - (m * m) * (1.0 - 0.8 * 0.8)) - m * 0.8;
        due(13, "K in the glass", b.at(0, 3), bits(m * 0.6));
        due(13, "M in the glass", b.at(0, 5), bits(m * 0.8 + f));
        near(13, "sine law", b.at(0, 3), 0.4);
        near(13, "the same way behind the slab", b.at(1, 3), 0.6);
        near(13, "turned by the mirror", b.at(2, 5), -0.8);
        near(13, "not turned by the mirror", b.at(2, 3), 0.6);
        for (int s : NO_SYSTEM) {
            due(12, "no system", b.trace(s, 0), -1);
            due(12, "no ray", b.trace(0, s), -1);
        }
    }

    private static void traceOutcomes() {
        LensBench b = new LensBench();
        add(b, 0, 0, 0, 0, 5, -1, false);
        aim(b, 0, 3, 4, -1, 0, 0, 1);
        due(12, "at the very edge", b.trace(0, 0), 0);
        b.ray(0, 1, bits(Math.nextUp(4.0)));
        due(12, "beyond the edge", b.trace(0, 0), 200);
        due(13, "not through", b.at(0, 0), -1);
        aim(b, 0, -5, 0, 0);
        due(12, "at the very edge", b.trace(0, 0), 0);
        b.ray(0, 1, 1L);
        due(12, "beyond by the least number", b.trace(0, 0), 200);
        add(b, 1, 0.1, 0, 0, 20, -1, false);
        aim(b, 0, 12, 0, 0);
        due(12, "a sphere is missed", b.trace(1, 0), 100);
        aim(b, 0, 0, 0, 15);
        due(12, "the far side of a sphere", b.trace(1, 0), 100);
        aim(b, 0, 0, 0, 15, 0, 0, -1);
        due(12, "the far side, backwards", b.trace(1, 0), 100);
        aim(b, 0, 0, 0, 5, 0, 0, -1);
        due(12, "from within", b.trace(1, 0), 0);
        due(13, "the near side", b.at(0, 2), bits(0.0));
        due(13, "a way of 5", b.at(0, 6), bits(5.0));
        aim(b, 0, 0, 0, 0, 1, 0, 0);
        due(12, "along a plane", b.trace(0, 0), 100);
        aim(b, 0, 0, 0, -1, 1, 0, 1e-310);
        due(12, "s is infinite", b.trace(0, 0), 400);
        aim(b, 0, 0, 0, -1, 1, 0, 1e-300);
        due(12, "x is great, but finite", b.trace(0, 0), 200);
        aim(b, 0, 1e6, 0, 1, 1, 0, -1e-308);
        due(12, "s is infinite, backwards", b.trace(0, 0), 400);
        add(b, 2, 0, 0, 1, 10, 3, false);
        add(b, 2, 0.05, 0, 0, 10, -1, false);
        for (int line = 0; line < 12; line++) {
            b.glass(3, line, 40000000);
        }
        aim(b, 0, 9, 0, 0, 0, 0, 1);
        due(12, "total", b.trace(2, 0), 301);
        due(13, "it went through the first", b.at(0, 5), bits(1.0));
        due(13, "not through the second", b.at(1, 5), -1);
        add(b, 3, 0, 0, 0, 10, -1, false);
        for (int i = 1; i < 15; i++) {
            add(b, 3, 0, 0, 1, 10, -1, false);
        }
        add(b, 3, 0, 0, 0, 8, -1, false);
        due(12, "the sixteenth", b.trace(3, 0), 215);
        due(13, "the fifteenth", b.at(14, 6), bits(13.0));
        due(12, "no surfaces", b.trace(7, 0), 0);
        due(13, "no surfaces", b.at(0, 0), -1);
    }

    private static void traceCurved() {
        LensBench b = new LensBench();
        add(b, 0, -0.02, -1, 0, 30, -1, true);
        double back = -25;
        for (double x : new double[] {1, 7.5, 20, -29}) {
            aim(b, 0, x, 0, -40, 0, 0, 1);
            due(12, "a paraboloid", b.trace(0, 0), 0);
            near(13, "z of a paraboloid", b.at(0, 2), -0.01 * x * x);
            double z = Double.longBitsToDouble(b.at(0, 2));
            double k = Double.longBitsToDouble(b.at(0, 3));
            double m = Double.longBitsToDouble(b.at(0, 5));
            near(13, "all through its focus", bits(z - x * m / k), back);
        }
        LensBench a = new LensBench();
        add(a, 0, 0.1, 0, 0, 9, 0, false);
        aim(a, 0, 6, 0, -3, 0, 0, 1);
        due(12, "a sphere", a.trace(0, 0), 0);
        near(13, "z of a sphere", a.at(0, 2), 2.0);
        near(13, "path", a.at(0, 6), 5.0);
        double in = Math.asin(0.6);
        double out = Math.asin(0.4);
        near(13, "K", a.at(0, 3), -Math.sin(in - out));
        near(13, "M", a.at(0, 5), Math.cos(in - out));
        aim(a, 0, 0, 6, -3);
        due(12, "in y", a.trace(0, 0), 0);
        near(13, "L", a.at(0, 4), -Math.sin(in - out));
    }

    private static void traceUnit() {
        LensBench b = new LensBench();
        add(b, 0, 0, 0, 0, 10, -1, false);
        aim(b, 0, 0, 0, 0, 0, 0, 1 - Math.pow(2, -41));
        due(12, "just unit", b.trace(0, 0), 0);
        aim(b, 0, 0, 0, 0, 0, 0, 1 - Math.pow(2, -40));
        due(12, "not unit", b.trace(0, 0), -2);
        aim(b, 0, 0, 0, 0, Math.pow(2, -20), 0, 1);
        due(12, "by 2^-40", b.trace(0, 0), 0);
        aim(b, 0, 0, 0, 0, Math.pow(2, -20) * 1.001, 0, 1);
        due(12, "by more", b.trace(0, 0), -2);
        due(12, "not unit in no system", b.trace(8, 0), -1);
        due(16, "not unit", b.spot(0, 0, 1), -1);
        aim(b, 0, 0, 0, 0, 0, 0, 0);
        due(12, "no direction", b.trace(0, 0), -2);
    }

    private static void atKeepsTheLatest() {
        LensBench b = new LensBench();
        add(b, 0, 0, 0, 0, 10, -1, false);
        aim(b, 0, 1, 2, -3);
        b.trace(0, 0);
        b.ray(1, 5, 0L);
        due(12, "refused", b.trace(0, 1), -2);
        due(12, "refused", b.trace(8, 0), -1);
        b.ray(0, 0, bits(4));
        b.clear(0);
        b.surface(0);
        b.spot(0, 0, 3);
        b.want(0, 2, 0, 3, 1, 0);
        b.merit(0);
        due(13, "x as it was", b.at(0, 0), bits(1));
        due(13, "path as it was", b.at(0, 6), bits(3));
        b.trace(0, 0);
        due(13, "x now", b.at(0, 0), bits(4));
    }

    private static void paraxialAndRow() {
        LensBench b = plano(15);
        double u0 = (1.0 * 0.0 - 1.0 * (0.02 * (1.5 - 1.0))) / 1.5;
        double y1 = 1.0 + 15.0 * u0;
        double u1 = (1.5 * u0 - y1 * (0.0 * (1.0 - 1.5))) / 1.0;
        due(14, "FOCAL", b.paraxial(0, 588, 0), bits(0.0 - 1.0 / u1));
        near(14, "FOCAL", b.paraxial(0, 588, 0), 100);
        due(14, "BACK", b.paraxial(0, 588, 1), bits(0.0 - y1 / u1));
        near(14, "BACK", b.paraxial(0, 588, 1), 90);
        double[][] rows = {{1, u0, 1.5}, {y1, u1, 1}};
        for (int i = 0; i < 2; i++) {
            for (int what = 0; what < 3; what++) {
                due(15, "row(" + i + ", " + what + ")", b.row(i, what), bits(rows[i][what]));
            }
        }
        for (int[] bad : new int[][] {{-1, 0}, {2, 0}, {0, 3}, {0, -1}, {16, 0}, {Integer.MIN_VALUE, 1}}) {
            due(15, "row(" + bad[0] + ", " + bad[1] + ")", b.row(bad[0], bad[1]), -1);
        }
        due(14, "no wavelength", b.paraxial(0, 364, 0), -1);
        due(14, "no wavelength", b.paraxial(0, 1015, 1), -1);
        due(14, "no surfaces", b.paraxial(1, 588, 0), -1);
        for (int s : NO_SYSTEM) {
            due(14, "no system", b.paraxial(s, 588, 0), -1);
        }
        due(15, "refused changes nothing", b.row(1, 0), bits(y1));
        due(14, "no what", b.paraxial(0, 588, 2), -1);
        due(14, "no what", b.paraxial(0, 588, -1), -1);
        add(b, 2, 0, 0, 0, 10, 1, false);
        due(14, "a plane has none", b.paraxial(2, 588, 0), -1);
        due(14, "a plane has none", b.paraxial(2, 588, 1), -1);
        due(15, "but a row", b.row(0, 2), bits(1.5));
        due(15, "and no other", b.row(1, 0), -1);
        add(b, 3, 0, 0, 0, 10, -1, true);
        add(b, 3, 0.01, 0, 0, 10, 2, false);
        b.paraxial(3, 588, 0);
        due(15, "n behind a mirror", b.row(0, 2), bits(-1.0));
        due(15, "u behind a plane mirror", b.row(0, 1), bits(-0.0));
        due(15, "n behind a glass behind a mirror", b.row(1, 2), bits(-1.5));
        LensBench c = new LensBench();
        add(c, 0, -0.01, 0, 0, 10, 5, true);
        near(14, "a mirror", c.paraxial(0, 588, 1), -50);
        c.glass(0, 5, 15500000);
        LensBench d = plano(0);
        d.glass(0, 5, 16000000);
        near(14, "at a line", d.paraxial(0, 588, 0), 1 / (0.02 * 0.6));
        near(14, "at another", d.paraxial(0, 486, 0), 100);
    }

    private static void spotSpottedCut() {
        LensBench b = new LensBench();
        add(b, 0, 0, 0, 4, 10, -1, false);
        due(16, "1", b.spot(0, 0, 1), 1);
        for (int what = 0; what < 4; what++) {
            due(17, "of one ray", b.spotted(what), 0);
        }
        due(16, "2 x 2", b.spot(0, 0, 2), 4);
        due(17, "X", b.spotted(0), 0);
        due(17, "Y", b.spotted(1), 0);
        due(17, "SPREAD", b.spotted(2), bits(Math.sqrt(50)));
        due(17, "GREATEST", b.spotted(3), bits(Math.sqrt(50)));
        due(17, "no what", b.spotted(4), -1);
        due(17, "no what", b.spotted(-1), -1);
        due(18, "rays", b.cut(-1), 4);
        due(16, "4 x 4 less the corners", b.spot(0, 0, 4), 12);
        due(17, "SPREAD", b.spotted(2), bits(Math.sqrt((4 * 12.5 + 8 * 62.5) / 12)));
        due(17, "GREATEST", b.spotted(3), bits(Math.sqrt(62.5)));
        add(b, 0, 0, 0, 0, 5, -1, false);
        due(16, "cut by the second", b.spot(0, 0, 4), 4);
        due(17, "GREATEST", b.spotted(3), bits(Math.sqrt(12.5)));
        due(18, "rays", b.cut(-1), 12);
        due(18, "at the first", b.cut(0), 0);
        due(18, "at the second", b.cut(1), 8);
        for (int i : new int[] {2, 15, 16, -2, Integer.MIN_VALUE, Integer.MAX_VALUE}) {
            due(18, "cut(" + i + ")", b.cut(i), 0);
        }
        b.put(0, 1, 3, bits(6));
        aim(b, 1, 77, 88, 99, 0.6, 0, 0.8);
        due(16, "slanting", b.spot(0, 1, 2), 2);
        near(17, "X", b.spotted(0), -2);
        near(17, "SPREAD", b.spotted(2), 5);
        due(18, "cut", b.cut(1), 2);
        aim(b, 1, 0, 0, 0, 0.96, 0, 0.28);
        due(16, "none passes", b.spot(0, 1, 2), 0);
        for (int what = 0; what < 4; what++) {
            due(17, "none passed", b.spotted(what), -1);
        }
        due(18, "all cut", b.cut(1), 4);
        LensBench tiny = new LensBench();
        add(tiny, 0, 0, 0, 0, 1, -1, false);
        tiny.put(0, 0, 3, bits(1e-160));
        due(16, "a tiny bundle", tiny.spot(0, 0, 2), 4);
        double a = 1e-160 * 0.5;
        java.math.BigDecimal square = new java.math.BigDecimal(a).pow(2);
        java.math.BigDecimal eight = square.multiply(new java.math.BigDecimal(8));
        due(17, "squares below the normal ones", tiny.spotted(2), bits(Math.sqrt(RefBench.rounded(eight) / 4)));
        due(17, "squares below the normal ones", tiny.spotted(3), bits(Math.sqrt(RefBench.rounded(square.add(square)))));
        LensBench full = new LensBench();
        add(full, 0, 0, 0, 0, 1000, -1, false);
        int within = 0;
        for (int i = -15; i < 16; i += 2) {
            for (int j = -15; j < 16; j += 2) {
                within += i * i + j * j <= 256 ? 1 : 0;
            }
        }
        due(16, "16 x 16", full.spot(0, 0, 16), within);
        due(18, "16 x 16", full.cut(-1), within);
    }

    private static void spotRefused() {
        LensBench b = new LensBench();
        due(18, "ahead of any", b.cut(0), 0);
        due(16, "no surfaces", b.spot(0, 0, 2), -1);
        b.surface(0);
        b.spot(0, 0, 3);
        due(18, "9 rays", b.cut(-1), 9);
        b.ray(1, 5, bits(0.5));
        due(16, "not unit", b.spot(0, 1, 2), -1);
        due(16, "no n", b.spot(0, 0, 0), -1);
        due(16, "no n", b.spot(0, 0, 17), -1);
        due(16, "no n", b.spot(0, 0, -3), -1);
        due(16, "no surfaces", b.spot(1, 0, 2), -1);
        for (int s : NO_SYSTEM) {
            due(16, "no system", b.spot(s, 0, 2), -1);
            due(16, "no ray", b.spot(0, s, 2), -1);
        }
        due(18, "refused changes nothing", b.cut(-1), 9);
        near(17, "refused changes nothing", b.spotted(3), Math.sqrt(2) * 20 / 3);
    }

    private static void wantAndMerit() {
        LensBench b = plano(15);
        due(20, "no parts", b.merit(0), 0);
        due(19, "FOCAL", b.want(0, 0, 0, 1, 2, 97), 1);
        near(20, "FOCAL", b.merit(0), 18);
        due(19, "BACK", b.want(0, 1, 1, 1, 1000, 90), 2);
        near(20, "FOCAL, BACK", b.merit(0), 18);
        due(19, "SPREAD", b.want(0, 2, 2, 16, 3, -10000), 3);
        b.spot(0, 2, 16);
        double focal = Double.longBitsToDouble(b.paraxial(0, 588, 0));
        double back = Double.longBitsToDouble(b.paraxial(0, 588, 1));
        double spread = Double.longBitsToDouble(b.spotted(2));
        double merit = 0.0 + 2 * ((focal - 97) * (focal - 97));
        merit = merit + 1000 * ((back - 90) * (back - 90));
        merit = merit + 3 * ((spread + 10000) * (spread + 10000));
        due(20, "all three", b.merit(0), bits(merit));
        for (int[] bad : new int[][] {{-1, 0, 1, 1, 1}, {3, 0, 1, 1, 1}, {0, -1, 1, 1, 1}, {0, 8, 1, 1, 1}, {0, 0, 0, 1, 1}, {0, 0, 2, 1, 1},
            {1, 0, 2, 1, 1}, {2, 0, 0, 1, 1}, {2, 0, 17, 1, 1}, {0, 0, 1, -1, 1}, {0, 0, 1, 1001, 1}, {0, 0, 1, 1, -10001}, {0, 0, 1, 1, 10001}}) {
            due(19, "a part that can't be", b.want(0, bad[0], bad[1], bad[2], bad[3], bad[4]), -1);
        }
        for (int s : NO_SYSTEM) {
            due(19, "no system", b.want(s, 0, 0, 1, 1, 1), -1);
            due(20, "no system", b.merit(s), -1);
        }
        due(19, "refused changes nothing", b.count(0, 1), 3);
        for (int k = 4; k <= 8; k++) {
            due(19, "more", b.want(0, 0, 7, 1, 0, 10000), k);
        }
        due(19, "a ninth", b.want(0, 0, 7, 1, 0, 10000), -1);
        due(20, "weight 0 adds nothing", b.merit(0), bits(merit));
        due(19, "an empty system may want", b.want(5, 2, 0, 1, 1, 1), 1);
        due(20, "no surfaces", b.merit(5), -1);
        due(5, "parts go", b.clear(5), 0);
        due(5, "parts go", b.count(5, 1), 0);
    }

    private static void meritInfinite() {
        LensBench b = new LensBench();
        add(b, 0, 0, 0, 0, 10, -1, false);
        b.want(0, 0, 0, 1, 0, 0);
        due(20, "FOCAL is not there, weight 0", b.merit(0), INFINITE);
        b.put(0, 0, 0, bits(1e-300));
        b.behind(0, 0, 0, false);
        due(20, "the square is infinite, weight 0", b.merit(0), INFINITE);
        b.put(0, 0, 0, bits(0.01));
        due(20, "finite again", b.merit(0), 0);
        b.ray(0, 5, bits(0.5));
        due(20, "FOCAL asks for the wavelength alone", b.merit(0), 0);
        b.want(0, 2, 0, 2, 0, 0);
        due(20, "SPREAD of a ray that is not unit", b.merit(0), INFINITE);
        b.ray(0, 5, bits(1.0));
        due(20, "as it is when it is asked", b.merit(0), 0);
        add(b, 0, 0, 0, 0, 10, -1, false);
        b.put(0, 1, 3, bits(0.001));
        due(20, "none passes", b.merit(0), INFINITE);
        b.tolerance(0, 0, 0, 1);
        due(25, "a merit is infinite", b.effect(0, 0), -1);
        due(22, "a merit is infinite", b.improve(0, 1), -1);
        due(26, "all infinite", b.worst(0), 0);
        due(27, "all infinite", b.worstMerit(), INFINITE);
    }

    private static void meritLeavesTheRest() {
        LensBench b = plano(15);
        b.spot(0, 0, 2);
        long spread = b.spotted(2);
        b.paraxial(0, 588, 0);
        long row = b.row(1, 0);
        b.want(0, 2, 0, 5, 1, 0);
        b.want(0, 0, 0, 1, 1, 0);
        b.put(0, 0, 2, bits(3));
        b.vary(0, 0, 2, 0, 20000);
        b.merit(0);
        b.improve(0, 2);
        b.worst(0);
        b.solve(0, 0, 2, 0, 20000, 588, 90000);
        due(17, "of the latest spot()", b.spotted(2), spread);
        due(18, "of the latest spot()", b.cut(-1), 4);
        due(15, "of the latest paraxial()", b.row(1, 0), row);
    }

    private static void varyAndStep() {
        LensBench b = plano(15);
        due(21, "c", b.vary(0, 0, 0, -1000, 1000), 1);
        due(21, "k", b.vary(0, 1, 1, -10000, 10000), 2);
        due(21, "t", b.vary(0, 0, 2, -10000000, 10000000), 3);
        due(21, "t", b.vary(0, 0, 2, 7, 8), 4);
        due(23, "c", b.step(0, 0), bits(0.25));
        due(23, "k", b.step(0, 1), bits(2.5));
        due(23, "t", b.step(0, 2), bits(2500));
        due(23, "t", b.step(0, 3), bits((8 / 1000.0 - 7 / 1000.0) * 0.125));
        for (int[] bad : new int[][] {{0, 0, -1001, 0}, {0, 0, 0, 1001}, {0, 1, -10001, 0}, {0, 1, 0, 10001}, {0, 2, -10000001, 0},
            {0, 2, 0, 10000001}, {0, 0, 1, 1}, {0, 0, 2, 1}, {0, 3, 1, 2}, {0, -1, 1, 2}, {2, 0, 1, 2}, {-1, 0, 1, 2},
            {0, 0, Integer.MIN_VALUE, Integer.MAX_VALUE}}) {
            due(21, "a variable that can't be", b.vary(0, bad[0], bad[1], bad[2], bad[3]), -1);
        }
        for (int s : NO_SYSTEM) {
            due(21, "no system", b.vary(s, 0, 0, 0, 1), -1);
            due(23, "no system", b.step(s, 0), -1);
        }
        due(23, "none", b.step(0, 4), -1);
        due(23, "none", b.step(0, -1), -1);
        due(23, "none", b.step(1, 0), -1);
        b.vary(0, 0, 0, 0, 1);
        due(21, "a sixth", b.vary(0, 0, 0, 0, 1), 6);
        due(21, "a seventh", b.vary(0, 0, 0, 0, 1), -1);
        due(33, "six", b.count(0, 2), 6);
    }

    private static void improveByHand() {
        LensBench b = plano(0);
        b.want(0, 1, 0, 1, 1, 90);
        b.vary(0, 0, 2, 0, 20000);
        due(22, "six steps of 2.5", b.improve(0, 6), 6);
        due(22, "t", b.get(0, 0, 2), bits(15));
        due(23, "STEP", b.step(0, 0), bits(2.5));
        due(22, "at the goal", b.improve(0, 3), 0);
        due(22, "t", b.get(0, 0, 2), bits(15));
        due(23, "STEP by halves", b.step(0, 0), bits(0.3125));
        b.put(0, 0, 2, bits(20));
        due(22, "from the upper bound down", b.improve(0, 10), 10);
        due(22, "t", b.get(0, 0, 2), bits(20 - 10 * 0.3125));
        LensBench c = plano(1);
        c.want(0, 1, 0, 1, 1, 110);
        c.vary(0, 0, 2, 0, 20000);
        due(22, "below low is not tried", c.improve(0, 1), 0);
        due(22, "t stays", c.get(0, 0, 2), bits(1));
        due(23, "STEP", c.step(0, 0), bits(1.25));
        due(22, "nor now", c.improve(0, 1), 0);
        due(22, "now it is", c.improve(0, 1), 1);
        due(22, "t", c.get(0, 0, 2), bits(1 - 0.625));
        LensBench d = plano(10.5);
        d.want(0, 1, 0, 1, 1, 92);
        d.vary(0, 0, 2, 0, 16000);
        d.vary(0, 0, 2, 10500, 11500);
        due(22, "12.375 is better, but above the second's bounds", d.improve(0, 1), 1);
        due(22, "t", d.get(0, 0, 2), bits(12.5));
        due(23, "STEP of the second", d.step(0, 1), bits(0.0625));
        due(22, "t is not within the second's bounds now", d.improve(0, 1), -1);
        LensBench e = plano(13.5);
        e.want(0, 1, 0, 1, 1, 92);
        e.vary(0, 0, 2, 0, 16000);
        e.vary(0, 0, 2, 13000, 14000);
        due(22, "11.625 is better, but below the second's bounds", e.improve(0, 1), 1);
        due(22, "t", e.get(0, 0, 2), bits(11.5));
    }

    private static void improveRefused() {
        LensBench b = plano(5);
        b.want(0, 1, 0, 1, 1, 90);
        due(22, "no variables", b.improve(0, 1), 0);
        b.vary(0, 0, 2, 6000, 20000);
        due(22, "below its bounds", b.improve(0, 1), -1);
        b.put(0, 0, 2, bits(20.5));
        due(22, "above its bounds", b.improve(0, 1), -1);
        b.put(0, 0, 2, bits(6));
        due(22, "no rounds", b.improve(0, 0), -1);
        due(22, "too many", b.improve(0, 11), -1);
        due(22, "no surfaces", b.improve(1, 1), -1);
        for (int s : NO_SYSTEM) {
            due(22, "no system", b.improve(s, 1), -1);
        }
        due(22, "nothing moved", b.get(0, 0, 2), bits(6));
        due(22, "at its bound", b.improve(0, 1), 1);
    }

    private static void toleranceAndEffect() {
        LensBench b = plano(15);
        b.want(0, 1, 0, 1, 1, 90);
        due(24, "t by 1", b.tolerance(0, 0, 2, 1000000), 1);
        due(24, "c by less", b.tolerance(0, 0, 0, -20000), 2);
        due(24, "far out of the range", b.tolerance(0, 0, 2, Integer.MAX_VALUE), 3);
        near(25, "t by 1", b.effect(0, 0), 4 / 9.0);
        due(25, "c becomes 0: no BACK", b.effect(0, 1), -1);
        near(25, "t by 2147.48", b.effect(0, 2), Math.pow(2147.483647 * 2 / 3, 2));
        due(25, "the number is as it was", b.get(0, 0, 2), bits(15));
        double merit = Double.longBitsToDouble(b.merit(0));
        long effect = b.effect(0, 0);
        b.put(0, 0, 2, bits(16));
        due(25, "the one less the other", effect, bits(Double.longBitsToDouble(b.merit(0)) - merit));
        for (int[] bad : new int[][] {{0, 0, 0}, {0, 3, 1}, {0, -1, 1}, {2, 0, 1}, {-1, 0, 1}}) {
            due(24, "a tolerance that can't be", b.tolerance(0, bad[0], bad[1], bad[2]), -1);
        }
        for (int s : NO_SYSTEM) {
            due(24, "no system", b.tolerance(s, 0, 0, 1), -1);
            due(25, "no system", b.effect(s, 0), -1);
        }
        due(25, "none", b.effect(0, 3), -1);
        due(25, "none", b.effect(0, -1), -1);
        due(25, "none", b.effect(1, 0), -1);
        for (int k = 4; k <= 6; k++) {
            due(24, "more", b.tolerance(0, 1, 1, Integer.MIN_VALUE), k);
        }
        due(24, "a seventh", b.tolerance(0, 1, 1, 1), -1);
        due(33, "six", b.count(0, 3), 6);
    }

    private static void worstAndItsMerit() {
        LensBench b = plano(14);
        b.want(0, 1, 0, 1, 1, 90);
        due(26, "no tolerances", b.worst(0), 0);
        due(27, "the merit", b.worstMerit(), b.merit(0));
        b.tolerance(0, 0, 2, 1000000);
        due(26, "less is worse", b.worst(0), 1);
        near(27, "of that way", b.worstMerit(), 16 / 9.0);
        b.tolerance(0, 1, 1, 5);
        due(26, "the first of two", b.worst(0), 1);
        b.tolerance(0, 0, 2, -500000);
        due(26, "the same number twice", b.worst(0), 1);
        near(27, "both count", b.worstMerit(), Math.pow(2.5 * 2 / 3, 2));
        due(26, "the number is as it was", b.get(0, 0, 2), bits(14));
        b.tolerance(0, 0, 0, 20000);
        due(26, "c becomes 0: infinite", b.worst(0), 8);
        due(27, "infinite", b.worstMerit(), INFINITE);
        due(26, "no surfaces", b.worst(1), -1);
        for (int s : NO_SYSTEM) {
            due(26, "no system", b.worst(s), -1);
        }
        due(27, "refused changes nothing", b.worstMerit(), INFINITE);
        due(26, "the number is as it was", b.get(0, 0, 0), bits(0.02));
    }

    private static void solveByHand() {
        LensBench b = plano(3);
        due(28, "BACK 90", b.solve(0, 0, 2, 0, 20000, 588, 90000), 1);
        near(28, "t", b.get(0, 0, 2), 15);
        due(28, "BACK 99.3", b.solve(0, 0, 2, 0, 20000, 588, 99300), 1);
        near(28, "t", b.get(0, 0, 2), 1.05);
        long t = b.get(0, 0, 2);
        due(28, "no turn", b.solve(0, 0, 2, 0, 20000, 588, 101000), 0);
        due(28, "no turn", b.solve(0, 0, 2, 0, 20000, 588, 80000), 0);
        due(28, "t stays", b.get(0, 0, 2), t);
        due(28, "c from -0.1 to 0.1 meets a plane", b.solve(0, 0, 0, -100, 100, 588, 50000), 0);
        due(28, "c stays", b.get(0, 0, 0), bits(0.02));
        due(28, "c at a bound has none", b.solve(0, 0, 0, 0, 100, 588, 50000), 0);
        due(28, "c", b.solve(0, 0, 0, 10, 100, 588, 50000), 1);
        near(28, "BACK", b.paraxial(0, 588, 1), 50);
        due(28, "k plays no part", b.solve(0, 0, 1, -1000, 1000, 588, 49999), 0);
        LensBench exact = plano(0);
        long back = exact.paraxial(0, 588, 1);
        due(28, "BACK at t 0 is 100", back, bits(100));
        due(28, "low gives 0", exact.solve(0, 0, 2, 0, 20000, 588, 100000), 1);
        due(28, "as low is not above 0 and nothing is, low runs to high", exact.get(0, 0, 2), bits(20));
        for (int[] bad : new int[][] {{-1, 2, 0, 1, 588}, {2, 2, 0, 1, 588}, {0, 3, 0, 1, 588}, {0, -1, 0, 1, 588}, {0, 2, 1, 1, 588}, {0, 2, 2, 1, 588},
            {0, 2, -10000001, 1, 588}, {0, 2, 1, 10000001, 588}, {0, 0, 0, 1001, 588}, {0, 2, 0, 1, 364}, {0, 2, 0, 1, 1015}}) {
            due(28, "what can't be", b.solve(0, bad[0], bad[1], bad[2], bad[3], bad[4], 0), -1);
        }
        due(28, "no surface", b.solve(1, 0, 2, 0, 1, 588, 0), -1);
        for (int s : NO_SYSTEM) {
            due(28, "no system", b.solve(s, 0, 2, 0, 1, 588, 0), -1);
        }
    }

    private static LensBench triple() {
        LensBench b = new LensBench();
        add(b, 0, 0.02, 0.5, 3, 9, 4, false);
        add(b, 0, -0.03, -2, 2, 8, 7, false);
        add(b, 0, 0, 1, 0, 7, -1, false);
        b.want(1, 0, 0, 1, 1, 1);
        b.surface(1);
        b.vary(1, 0, 0, 0, 1);
        b.tolerance(1, 0, 0, 1);
        return b;
    }

    private static void has(int promise, LensBench b, int s, double[][] numbers, int[] glass) {
        due(promise, "how many", b.count(s, 0), numbers.length);
        for (int i = 0; i < numbers.length; i++) {
            for (int what = 0; what < 4; what++) {
                due(promise, "get(" + s + ", " + i + ", " + what + ")", b.get(s, i, what), bits(numbers[i][what]));
            }
            due(promise, "kind(" + s + ", " + i + ", 0)", b.kind(s, i, 0), glass[i]);
        }
    }

    private static void wishesGone(int promise, LensBench b, int s) {
        for (int what = 1; what < 4; what++) {
            due(promise, "count(" + s + ", " + what + ")", b.count(s, what), 0);
        }
    }

    private static void wishesStay(int promise, LensBench b, int s) {
        for (int what = 1; what < 4; what++) {
            due(promise, "count(" + s + ", " + what + ")", b.count(s, what), 1);
        }
    }

    private static void reverse() {
        LensBench b = triple();
        due(29, "reverse(0, 1)", b.reverse(0, 1), true);
        double[][] turned = {{0, 1, 2, 7}, {0.03, -2, 3, 8}, {-0.02, 0.5, 0, 9}};
        has(29, b, 1, turned, new int[] {7, 4, -1});
        has(29, b, 0, new double[][] {{0.02, 0.5, 3, 9}, {-0.03, -2, 2, 8}, {0, 1, 0, 7}}, new int[] {4, 7, -1});
        wishesGone(29, b, 1);
        due(29, "and back", b.reverse(1, 2), true);
        due(29, "and back", b.differ(0, 2), -1);
        due(29, "in its place", b.reverse(0, 0), true);
        has(29, b, 0, turned, new int[] {7, 4, -1});
        for (int s : NO_SYSTEM) {
            due(29, "no system", b.reverse(s, 0), false);
            due(29, "no system", b.reverse(0, s), false);
        }
        LensBench c = triple();
        c.put(0, 2, 2, bits(1));
        due(29, "the last t is not 0", c.reverse(0, 1), false);
        c.put(0, 2, 2, bits(0));
        c.behind(0, 2, 3, false);
        due(29, "no air behind the last", c.reverse(0, 1), false);
        c.behind(0, 2, -1, false);
        c.behind(0, 1, 7, true);
        due(29, "a mirror", c.reverse(0, 1), false);
        wishesStay(29, c, 1);
        c.behind(0, 1, 7, false);
        due(29, "now", c.reverse(0, 1), true);
        due(29, "an empty one", c.reverse(6, 1), true);
        due(29, "is empty", c.count(1, 0), 0);
    }

    private static void scale() {
        LensBench b = triple();
        b.behind(0, 1, 7, true);
        due(30, "by 4", b.scale(0, 1, 2), true);
        has(30, b, 1, new double[][] {{0.005, 0.5, 12, 36}, {-0.0075, -2, 8, 32}, {0, 1, 0, 28}}, new int[] {4, 7, -1});
        due(30, "a mirror stays", b.kind(1, 1, 1), 1);
        wishesGone(30, b, 1);
        due(30, "in its place", b.scale(1, 1, -2), true);
        due(30, "and back", b.differ(0, 1), -1);
        due(30, "by 1", b.scale(0, 3, 0), true);
        due(30, "by 1", b.differ(0, 3), -1);
        b.want(3, 0, 0, 1, 1, 1);
        due(30, "e", b.scale(0, 3, 21), false);
        due(30, "e", b.scale(0, 3, -21), false);
        due(30, "e", b.scale(0, 3, Integer.MIN_VALUE), false);
        due(30, "h above 1000", b.scale(0, 3, 7), false);
        due(30, "c above 1", b.scale(0, 3, -6), false);
        due(30, "c up to 1", b.scale(0, 4, -5), true);
        due(30, "refused changes nothing", b.count(3, 1), 1);
        for (int s : NO_SYSTEM) {
            due(30, "no system", b.scale(s, 0, 1), false);
            due(30, "no system", b.scale(0, s, 1), false);
        }
        LensBench c = new LensBench();
        add(c, 0, 1, 0, 10000, 1000, -1, false);
        due(30, "t and h above", c.scale(0, 1, 1), false);
        due(30, "c above", c.scale(0, 1, -1), false);
        add(c, 2, -Double.MIN_VALUE, 0, -Double.MIN_VALUE, 1, -1, false);
        due(30, "tiny c", c.scale(2, 3, 5), true);
        due(30, "c is 0, not -0", c.get(3, 0, 0), 0);
        due(30, "tiny t", c.scale(2, 3, -5), true);
        due(30, "t is 0, not -0", c.get(3, 0, 2), 0);
        c.put(2, 0, 3, bits(Double.MIN_VALUE));
        due(30, "h would be 0", c.scale(2, 3, -1), false);
        due(30, "an empty one", c.scale(7, 3, 20), true);
        due(30, "is empty", c.count(3, 0), 0);
    }

    private static void join() {
        LensBench b = triple();
        add(b, 2, 0.1, 0, 6, 5, 3, true);
        due(31, "join", b.join(0, 2, 1, bits(-4)), true);
        double[][] joined = {{0.02, 0.5, 3, 9}, {-0.03, -2, 2, 8}, {0, 1, -4, 7}, {0.1, 0, 6, 5}};
        has(31, b, 1, joined, new int[] {4, 7, -1, 3});
        due(31, "a mirror stays", b.kind(1, 3, 1), 1);
        wishesGone(31, b, 1);
        due(31, "a as it was", b.get(0, 2, 2), bits(0));
        due(31, "onto a", b.join(0, 2, 0, bits(-4)), true);
        due(31, "onto a", b.differ(0, 1), -1);
        due(31, "onto b", b.join(1, 2, 2, bits(1)), true);
        due(31, "onto b", b.count(2, 0), 5);
        due(31, "with itself", b.join(0, 0, 0, bits(-0.0)), true);
        due(31, "with itself", b.count(0, 0), 8);
        due(31, "-0 is 0", b.get(0, 3, 2), 0);
        due(31, "t of the second", b.get(0, 7, 2), bits(6));
        due(31, "16", b.join(0, 0, 3, 0), true);
        due(31, "17", b.join(3, 2, 4, 0), false);
        due(31, "nothing made", b.count(4, 0), 0);
        due(31, "b is empty", b.join(2, 7, 4, bits(10000)), true);
        due(31, "b is empty", b.get(4, 4, 2), bits(10000));
        due(31, "a is empty", b.join(7, 2, 4, 0), false);
        due(31, "t", b.join(2, 2, 4, bits(Math.nextUp(10000.0))), false);
        due(31, "t", b.join(2, 2, 4, bits(Double.NaN)), false);
        due(31, "t", b.join(2, 2, 4, INFINITE), false);
        for (int s : NO_SYSTEM) {
            due(31, "no system", b.join(s, 2, 4, 0), false);
            due(31, "no system", b.join(2, s, 4, 0), false);
            due(31, "no system", b.join(2, 2, s, 0), false);
        }
        due(31, "refused changes nothing", b.count(4, 0), 5);
    }

    private static void differAndCount() {
        LensBench b = triple();
        due(32, "itself", b.differ(0, 0), -1);
        due(32, "two empty ones", b.differ(5, 6), -1);
        due(32, "one empty", b.differ(0, 6), 0);
        due(32, "one empty", b.differ(6, 0), 0);
        b.scale(0, 2, 0);
        due(32, "the same", b.differ(0, 2), -1);
        b.want(2, 0, 0, 1, 1, 1);
        due(32, "parts are not looked at", b.differ(0, 2), -1);
        b.surface(2);
        due(32, "one has more", b.differ(0, 2), 3);
        due(32, "one has more", b.differ(2, 0), 3);
        for (int what = 0; what < 4; what++) {
            b.scale(0, 2, 0);
            b.put(2, 1, what, bits(0.75));
            due(32, "by a number", b.differ(0, 2), 1);
        }
        b.scale(0, 2, 0);
        b.behind(2, 2, 0, false);
        due(32, "by a glass", b.differ(0, 2), 2);
        b.behind(2, 2, -1, true);
        due(32, "by a mirror", b.differ(0, 2), 2);
        b.behind(0, 2, 5, true);
        due(32, "by the glass of two mirrors", b.differ(0, 2), 2);
        b.behind(2, 2, 5, true);
        due(32, "the same", b.differ(0, 2), -1);
        for (int s : NO_SYSTEM) {
            due(32, "no system", b.differ(s, 0), -2);
            due(32, "no system", b.differ(0, s), -2);
            due(33, "no system", b.count(s, 0), -1);
        }
        b.want(0, 0, 0, 1, 1, 1);
        b.want(0, 0, 0, 1, 1, 1);
        b.vary(0, 0, 0, 0, 1);
        due(33, "surfaces", b.count(0, 0), 3);
        due(33, "parts", b.count(0, 1), 2);
        due(33, "variables", b.count(0, 2), 1);
        due(33, "tolerances", b.count(0, 3), 0);
        due(33, "no what", b.count(0, 4), -1);
        due(33, "no what", b.count(0, -1), -1);
    }
}
