import java.util.function.Consumer;

/**
 * Each argument of each call: the last values that are taken and the first that are refused on either side, the
 * least and greatest ints and longs; and after each call that is refused, all that can be told is as it was.
 */
public final class EdgesTest {
    private static final int LEAST = Integer.MIN_VALUE;
    private static final int GREATEST = Integer.MAX_VALUE;
    private static final int[][] SYSTEMS = from(0, 7);
    private static final int[][] RAYS = from(0, 7);
    private static final int[][] WAVES = from(365, 1014);
    private static final int[][] WITH_SURFACES = {{0, 1, 2, 3, 4, 6, 7}, {5, -1, 8, LEAST, GREATEST}};
    private static final int[][] WITH_ROOM = {{0, 1, 2, 3, 4, 7}, {5, 6, -1, 8, LEAST, GREATEST}};
    private static final int[][] ANY = {{LEAST, LEAST + 1, -1, 0, 1, GREATEST - 1, GREATEST}, {}};
    private static final int[][] NO_PLACE = {{}, {LEAST, -1, 0, 1, 15, 16, GREATEST}};
    private static final int[][] AS_IT_IS = {{}, {}};

    private static final Due DUE = new Due("EdgesTest");
    private static final long[][] AS_MADE = told(b -> { });

    /** A call whose arguments are ints. */
    interface Call {
        long on(LensBench b, int[] a);
    }

    public static void main(String[] args) {
        glasses();
        surfaces();
        raysAndTraces();
        paraxialAndSpots();
        parts();
        variables();
        tolerances();
        solving();
        systems();
        numbersOfSurfaces();
        numbersOfRays();
        wayBetween();
        refusedAsItStands();
        askingChangesNothing();
        DUE.end();
    }

    private static int[][] from(int low, int high) {
        int middle = low + (high - low) / 2;
        return new int[][] {{low, low == high ? low : low + 1, middle, high}, {LEAST, low - 1, high + 1, GREATEST}};
    }

    private static long one(boolean b) {
        return b ? 1L : 0L;
    }

    private static long[][] told(Consumer<LensBench> more) {
        long[][] all = new long[Benches.TOLD][];
        for (int part = 0; part < Benches.TOLD; part++) {
            LensBench b = Benches.ordinary();
            more.accept(b);
            all[part] = Benches.tell(b, part);
        }
        return all;
    }

    private static void unchanged(String name, long[][] before, Consumer<LensBench> more) {
        long[][] after = told(more);
        for (int part = 0; part < Benches.TOLD; part++) {
            DUE.same(name + " (part " + part + ")", after[part], before[part]);
        }
    }

    /** With the good arguments it is taken; each of them goes over what is taken and what is refused. */
    private static void edges(String name, long refused, Call call, int[] good, int[][]... each) {
        for (int k = 0; k < good.length; k++) {
            for (int v : each[k][0]) {
                int[] a = good.clone();
                a[k] = v;
                DUE.isNot(name + java.util.Arrays.toString(a), call.on(Benches.ordinary(), a), refused);
            }
            for (int v : each[k][1]) {
                int[] a = good.clone();
                a[k] = v;
                String told = name + java.util.Arrays.toString(a);
                DUE.is(told, call.on(Benches.ordinary(), a), refused);
                unchanged(told, AS_MADE, b -> call.on(b, a));
            }
        }
    }

    private static void glasses() {
        DUE.by("2: false when there is none such, or N can't be");
        edges("glass", 0, (b, a) -> one(b.glass(a[0], a[1], a[2])), new int[] {3, 4, 16000000},
            from(0, 15), from(0, 11), from(5000001, 40000000));
        DUE.by("3: -1 when there is no such GLASS (air is one) or wavelength");
        edges("index", -1, (b, a) -> b.index(a[0], a[1]), new int[] {0, 588}, from(-1, 15), WAVES);
        edges("index of air", -1, (b, a) -> b.index(a[0], a[1]), new int[] {-1, 588}, AS_IT_IS, WAVES);
    }

    private static void surfaces() {
        DUE.by("4: NONE: no such SYSTEM, or there are 16");
        edges("surface", -1, (b, a) -> b.surface(a[0]), new int[] {0}, new int[][] {{0, 1, 2, 3, 4, 5, 7}, {6, -1, 8, LEAST, GREATEST}});
        DUE.by("5: NONE when there is none such");
        edges("clear", -1, (b, a) -> b.clear(a[0]), new int[] {0}, SYSTEMS);
        DUE.by("6: False when there is none such");
        Call put = (b, a) -> one(b.put(a[0], a[1], a[2], 0x3fb0000000000000L));
        edges("put", 0, put, new int[] {0, 0, 0}, WITH_SURFACES, from(0, 2), from(0, 3));
        edges("put into the full one", 0, put, new int[] {6, 0, 0}, AS_IT_IS, from(0, 15), AS_IT_IS);
        edges("put into the empty one", 0, put, new int[] {5, 0, 0}, AS_IT_IS, NO_PLACE, AS_IT_IS);
        DUE.by("7: false when there is none such");
        for (boolean mirror : new boolean[] {false, true}) {
            Call behind = (b, a) -> one(b.behind(a[0], a[1], a[2], mirror));
            edges("behind", 0, behind, new int[] {0, 0, 0}, WITH_SURFACES, from(0, 2), from(-1, 15));
            edges("behind in the full one", 0, behind, new int[] {6, 0, 0}, AS_IT_IS, from(0, 15), AS_IT_IS);
            edges("behind in the empty one", 0, behind, new int[] {5, 0, 0}, AS_IT_IS, NO_PLACE, AS_IT_IS);
        }
        DUE.by("8: -1 when there is none such");
        Call get = (b, a) -> b.get(a[0], a[1], a[2]);
        edges("get", -1, get, new int[] {0, 0, 0}, WITH_SURFACES, from(0, 2), from(0, 3));
        edges("get of the full one", -1, get, new int[] {6, 0, 0}, AS_IT_IS, from(0, 15), AS_IT_IS);
        edges("get of the empty one", -1, get, new int[] {5, 0, 0}, AS_IT_IS, NO_PLACE, AS_IT_IS);
        DUE.by("9: -2 when there is none such");
        Call kind = (b, a) -> b.kind(a[0], a[1], a[2]);
        edges("kind", -2, kind, new int[] {0, 0, 0}, WITH_SURFACES, from(0, 2), from(0, 1));
        edges("kind of the full one", -2, kind, new int[] {6, 0, 1}, AS_IT_IS, from(0, 15), AS_IT_IS);
        edges("kind of the empty one", -2, kind, new int[] {5, 0, 1}, AS_IT_IS, NO_PLACE, AS_IT_IS);
    }

    private static void raysAndTraces() {
        DUE.by("10: False when there is none such");
        edges("ray", 0, (b, a) -> one(b.ray(a[0], a[1], 0x3fb0000000000000L)), new int[] {0, 0}, RAYS, from(0, 5));
        DUE.by("11: false when there is none such, or it is not 365 .. 1014");
        edges("wave", 0, (b, a) -> one(b.wave(a[0], a[1])), new int[] {0, 500}, RAYS, WAVES);
        DUE.by("12: NONE: no such SYSTEM, RAY");
        edges("trace", -1, (b, a) -> b.trace(a[0], a[1]), new int[] {0, 0}, SYSTEMS, RAYS);
        edges("trace of one that is not UNIT", -1, (b, a) -> b.trace(a[0], a[1]), new int[] {0, 3}, SYSTEMS, RAYS);
        DUE.by("13: -1 when it did not go through that SURFACE, or there is none such");
        edges("at", -1, (b, a) -> b.at(a[0], a[1]), new int[] {0, 0}, from(0, 2), from(0, 6));
        Call afterFull = (b, a) -> {
            b.trace(Benches.FULL, 0);
            return b.at(a[0], a[1]);
        };
        LensBench b = Benches.ordinary();
        DUE.is("through the full one", b.trace(Benches.FULL, 0), 0);
        for (int i : new int[] {-1, 0, 15, 16, LEAST, GREATEST}) {
            DUE.is("at of the full one", one(afterFull.on(b, new int[] {i, 6}) != -1), one(i == 0 || i == 15));
        }
    }

    private static void paraxialAndSpots() {
        DUE.by("14: -1: no such SYSTEM, wavelength, what, no SURFACES");
        // What is refused for its what alone has SURFACES and a wavelength: row() tells of it, and so of the same.
        edges("paraxial", -1, (b, a) -> b.paraxial(a[0], a[1], a[2]), new int[] {Benches.FULL, 588, 0}, WITH_SURFACES, WAVES, from(0, 1));
        DUE.by("15: -1 when there is none such");
        edges("row", -1, (b, a) -> b.row(a[0], a[1]), new int[] {0, 0}, from(0, 15), from(0, 2));
        DUE.by("16: NONE: no such SYSTEM, RAY, n, it is not UNIT, or there are no SURFACES");
        edges("spot", -1, (b, a) -> b.spot(a[0], a[1], a[2]), new int[] {0, 0, 2}, WITH_SURFACES,
            new int[][] {{0, 1, 2, 4, 5, 6, 7}, {3, -1, 8, LEAST, GREATEST}}, from(1, 16));
        DUE.by("17: -1 when there is none such");
        edges("spotted", -1, (b, a) -> b.spotted(a[0]), new int[] {0}, from(0, 3));
        DUE.by("18: 0 for others");
        LensBench b = Benches.ordinary();
        DUE.isNot("cut(-1)", b.cut(-1), 0);
        for (int i : new int[] {LEAST, LEAST + 1, -2, 3, 15, 16, GREATEST}) {
            DUE.is("cut(" + i + ")", b.cut(i), 0);
        }
    }

    private static void parts() {
        DUE.by("19: NONE: no such SYSTEM, kind, RAY, n (1 for kinds 0 and 1), weight, goal, or there are 8");
        Call want = (b, a) -> b.want(a[0], a[1], a[2], a[3], a[4], a[5]);
        int[][] notFull = {{0, 1, 2, 3, 4, 5, 7}, {6, -1, 8, LEAST, GREATEST}};
        edges("want", -1, want, new int[] {0, 2, 0, 1, 5, 6}, notFull, from(0, 2), RAYS, from(1, 16), from(0, 1000), from(-10000, 10000));
        for (int kind = 0; kind < 2; kind++) {
            edges("want", -1, want, new int[] {0, kind, 0, 1, 5, 6}, notFull, AS_IT_IS, RAYS, new int[][] {{1}, {0, 2, 16, -1, LEAST, GREATEST}},
                from(0, 1000), from(-10000, 10000));
        }
        DUE.by("20: -1: no such SYSTEM, or it has no SURFACES");
        edges("merit", -1, (b, a) -> b.merit(a[0]), new int[] {0}, WITH_SURFACES);
    }

    private static void variables() {
        DUE.by("21: NONE: no such SYSTEM, SURFACE, what, these can't be, or there are 6");
        Call vary = (b, a) -> b.vary(a[0], a[1], a[2], a[3], a[4]);
        int[] most = {1000, 10000, 10000000};
        edges("vary", -1, vary, new int[] {0, 0, 0, -5, 7}, WITH_ROOM, from(0, 2), from(0, 2), AS_IT_IS, AS_IT_IS);
        edges("vary in the empty one", -1, vary, new int[] {5, 0, 0, -5, 7}, AS_IT_IS, NO_PLACE, AS_IT_IS, AS_IT_IS, AS_IT_IS);
        for (int what = 0; what < 3; what++) {
            edges("vary", -1, vary, new int[] {0, 0, what, -5, 7}, AS_IT_IS, AS_IT_IS, AS_IT_IS, from(-most[what], 6), from(-4, most[what]));
        }
        DUE.by("22: NONE: no such SYSTEM, rounds, no SURFACES");
        edges("improve", -1, (b, a) -> b.improve(a[0], a[1]), new int[] {0, 1}, WITH_SURFACES, from(1, 10));
        DUE.by("23: -1 when there is none such");
        Call step = (b, a) -> b.step(a[0], a[1]);
        edges("step", -1, step, new int[] {0, 0}, new int[][] {{0, 1, 2, 3, 4, 6}, {5, 7, -1, 8, LEAST, GREATEST}}, from(0, 0));
        edges("step of the full one", -1, step, new int[] {6, 0}, AS_IT_IS, from(0, 5));
    }

    private static void tolerances() {
        DUE.by("24: NONE: no such SYSTEM, SURFACE, what, by is 0, or there are 6");
        Call tolerance = (b, a) -> b.tolerance(a[0], a[1], a[2], a[3]);
        int[][] notNought = {{LEAST, LEAST + 1, -1, 1, GREATEST}, {0}};
        edges("tolerance", -1, tolerance, new int[] {0, 0, 0, 5}, WITH_ROOM, from(0, 2), from(0, 2), notNought);
        edges("tolerance in the empty one", -1, tolerance, new int[] {5, 0, 0, 5}, AS_IT_IS, NO_PLACE, AS_IT_IS, AS_IT_IS);
        DUE.by("25: -1 when there is none such, no SURFACES");
        Call effect = (b, a) -> b.effect(a[0], a[1]);
        edges("effect", -1, effect, new int[] {0, 0}, new int[][] {{0, 1, 2, 3, 4, 6}, {5, 7, -1, 8, LEAST, GREATEST}}, from(0, 0));
        edges("effect of the full one", -1, effect, new int[] {6, 0}, AS_IT_IS, from(0, 5));
        DUE.by("26: NONE: no such SYSTEM, or no SURFACES");
        edges("worst", -1, (b, a) -> b.worst(a[0]), new int[] {0}, WITH_SURFACES);
    }

    private static void solving() {
        DUE.by("28: NONE: no such SYSTEM, SURFACE, what, wavelength, or these can't be");
        Call solve = (b, a) -> b.solve(a[0], a[1], a[2], a[3], a[4], a[5], a[6]);
        int[] most = {1000, 10000, 10000000};
        edges("solve", -1, solve, new int[] {0, 0, 0, -5, 7, 588, 100}, WITH_SURFACES, from(0, 2), from(0, 2), AS_IT_IS, AS_IT_IS, WAVES, ANY);
        edges("solve in the full one", -1, solve, new int[] {6, 0, 0, -5, 7, 588, 100}, AS_IT_IS, from(0, 15), AS_IT_IS, AS_IT_IS, AS_IT_IS,
            AS_IT_IS, AS_IT_IS);
        edges("solve in the empty one", -1, solve, new int[] {5, 0, 0, -5, 7, 588, 100}, AS_IT_IS, NO_PLACE, AS_IT_IS, AS_IT_IS, AS_IT_IS,
            AS_IT_IS, AS_IT_IS);
        for (int what = 0; what < 3; what++) {
            edges("solve", -1, solve, new int[] {0, 0, what, -5, 7, 588, 100}, AS_IT_IS, AS_IT_IS, AS_IT_IS, from(-most[what], 6),
                from(-4, most[what]), AS_IT_IS, AS_IT_IS);
        }
    }

    private static void systems() {
        DUE.by("29: False: no such ones, a MIRROR");
        int[][] noMirror = {{0, 1, 2, 3, 4, 5}, {6, 7, -1, 8, LEAST, GREATEST}};
        edges("reverse", 0, (b, a) -> one(b.reverse(a[0], a[1])), new int[] {0, 1}, noMirror, SYSTEMS);
        DUE.by("30: False: no such ones, another e");
        Call scale = (b, a) -> one(b.scale(a[0], a[1], a[2]));
        edges("scale", 0, scale, new int[] {0, 1, 0}, SYSTEMS, SYSTEMS, AS_IT_IS);
        edges("scale", 0, scale, new int[] {Benches.SMALL, 1, 0}, AS_IT_IS, AS_IT_IS, from(-20, 20));
        DUE.by("31: False: no such ones, a has none, there would be more than 16");
        Call join = (b, a) -> one(b.join(a[0], a[1], a[2], 0L));
        int[][] upTo16 = {{0, 1, 2, 3, 4, 5, 7}, {6, -1, 8, LEAST, GREATEST}};
        edges("join", 0, join, new int[] {0, 1, 2}, WITH_ROOM, upTo16, SYSTEMS);
        edges("join of the full one", 0, join, new int[] {6, 5, 2}, AS_IT_IS, new int[][] {{5}, {0, 7, 6}}, SYSTEMS);
        DUE.by("32: -2: no such ones");
        edges("differ", -2, (b, a) -> b.differ(a[0], a[1]), new int[] {0, 1}, SYSTEMS, SYSTEMS);
        DUE.by("33: NONE for others");
        edges("count", -1, (b, a) -> b.count(a[0], a[1]), new int[] {0, 0}, SYSTEMS, from(0, 3));
    }

    /** NaNs of all kinds, the infinite ones, and the least and greatest longs that are refused. */
    private static final long[] NO_NUMBER = {
        Long.MAX_VALUE, -1L, 0x7ff0000000000000L, 0xfff0000000000000L, 0x7ff0000000000001L, 0xfff0000000000001L, 0x7ff8000000000000L,
        0x7fefffffffffffffL, 0xffefffffffffffffL
    };

    /** Takes the numbers from low to high and no others; least is the least that is taken. */
    private static void reals(String name, double least, double high, java.util.function.ToLongBiFunction<LensBench, Long> call) {
        double[] taken = {least, Math.nextUp(least), Double.MIN_VALUE, Double.MIN_NORMAL, high / 3, Math.nextDown(high), high};
        for (double d : taken) {
            DUE.is(name + d, call.applyAsLong(Benches.ordinary(), Benches.bits(d)), 1);
        }
        double[] off = {Math.nextDown(least), Math.nextUp(high), -1e300, 1e300};
        for (int k = 0; k < off.length + NO_NUMBER.length; k++) {
            long bits = k < off.length ? Benches.bits(off[k]) : NO_NUMBER[k - off.length];
            DUE.is(name + Benches.number(bits), call.applyAsLong(Benches.ordinary(), bits), 0);
            unchanged(name + Benches.number(bits), AS_MADE, b -> call.applyAsLong(b, bits));
        }
        // Long.MIN_VALUE is -0: it is taken where 0 is.
        DUE.is(name + "-0", call.applyAsLong(Benches.ordinary(), Long.MIN_VALUE), least <= 0 ? 1 : 0);
        DUE.is(name + "0", call.applyAsLong(Benches.ordinary(), 0L), least <= 0 ? 1 : 0);
        DUE.is(name + "less than nought", call.applyAsLong(Benches.ordinary(), Long.MIN_VALUE + 1), least <= 0 ? 1 : 0);
    }

    private static void numbersOfSurfaces() {
        DUE.by("III, 6: c (-1 .. 1), k (-10 .. 10), t (-10000 .. 10000), h (above 0, up to 1000); or it can't be");
        double[] most = {1, 10, 10000, 1000};
        for (int what = 0; what < 4; what++) {
            int which = what;
            double least = what < 3 ? -most[what] : Double.MIN_VALUE;
            reals("put " + what + ": ", least, most[what], (b, bits) -> one(b.put(0, 2, which, bits)));
            for (double d : new double[] {least, Double.MIN_VALUE, most[what]}) {
                LensBench b = Benches.ordinary();
                b.put(0, 2, what, Benches.bits(d));
                DUE.is("what was put", b.get(0, 2, what), Benches.bits(d));
            }
        }
    }

    private static void numbersOfRays() {
        DUE.by("IV, 10: x, y, z (each -1000000 .. 1000000), K, L, M (each -1 .. 1); or it can't be");
        for (int what = 0; what < 6; what++) {
            int which = what;
            double most = what < 3 ? 1000000 : 1;
            reals("ray " + what + ": ", -most, most, (b, bits) -> one(b.ray(0, which, bits)));
        }
    }

    private static void wayBetween() {
        DUE.by("31: or t can't be");
        reals("join with t ", -10000, 10000, (b, bits) -> one(b.join(0, 1, 2, bits)));
        LensBench b = Benches.ordinary();
        b.join(0, 1, 2, Long.MIN_VALUE);
        DUE.is("-0 becomes 0", b.get(2, 2, 2), 0);
    }

    /** A call that is refused, or that answers 0 for a number that stays, behind what makes it so. */
    private static void refused(String words, Consumer<LensBench> ahead, java.util.function.ToLongFunction<LensBench> call, long answer) {
        DUE.by(words);
        LensBench b = Benches.ordinary();
        ahead.accept(b);
        DUE.is("the call", call.applyAsLong(b), answer);
        unchanged("the call", told(ahead), c -> {
            ahead.accept(c);
            call.applyAsLong(c);
        });
    }

    private static void refusedAsItStands() {
        long half = Benches.bits(0.5);
        refused("12: -2: it is not UNIT", b -> { }, b -> b.trace(0, 3), -2);
        refused("12: -2: it is not UNIT", b -> { }, b -> b.trace(Benches.EMPTY, 3), -2);
        refused("22: NONE: the MERIT is not finite (not UNIT)", b -> b.want(0, 2, 3, 1, 0, 0), b -> b.improve(0, 3), -1);
        refused("22: NONE: the MERIT is not finite (no FOCAL)", EdgesTest::flatten, b -> b.improve(1, 3), -1);
        refused("22: NONE: a VARIABLE's number is above its bounds", b -> b.put(0, 0, 0, Benches.bits(Math.nextUp(0.04))), b -> b.improve(0, 3), -1);
        refused("22: NONE: a VARIABLE's number is below its bounds", b -> b.put(0, 0, 0, Benches.bits(Math.nextDown(-0.005))), b -> b.improve(0, 3), -1);
        refused("25: -1: one of both is not finite", b -> b.want(0, 2, 3, 1, 0, 0), b -> b.effect(0, 0), -1);
        refused("25: -1: the other of both is not finite", EdgesTest::bearPlanes, b -> b.effect(0, 1), -1);
        refused("25: -1: the MERIT is not finite, but with by it is", EdgesTest::flattenBearing, b -> b.effect(1, 1), -1);
        refused("28: else 0 (the number stays)", b -> { }, b -> b.solve(0, 0, 2, 1000, 2000, 588, GREATEST), 0);
        refused("28: If a BACK is NONE on the way, 0", b -> b.put(0, 1, 0, 0L), b -> b.solve(0, 0, 0, -10, 10, 588, 0), 0);
        refused("28: If a BACK is NONE on the way (at low), 0", b -> b.put(0, 1, 0, 0L), b -> b.solve(0, 0, 0, 0, 10, 588, 0), 0);
        refused("28: If a BACK is NONE on the way (at high), 0", b -> b.put(0, 1, 0, 0L), b -> b.solve(0, 0, 0, -10, 0, 588, 0), 0);
        for (int to = 0; to < 8; to += 3) {
            int there = to;
            refused("29: False: a MIRROR", b -> b.behind(0, 0, 0, true), b -> one(b.reverse(0, there)), 0);
            refused("29: False: a MIRROR, the last one", b -> b.behind(0, 2, -1, true), b -> one(b.reverse(0, there)), 0);
            refused("29: False: the last one has no air behind", b -> b.behind(0, 2, 0, false), b -> one(b.reverse(0, there)), 0);
            refused("29: False: its t is not 0", b -> b.put(0, 2, 2, 1L), b -> one(b.reverse(0, there)), 0);
            refused("29: False: its t is not 0", b -> b.put(0, 2, 2, Benches.bits(-10000)), b -> one(b.reverse(0, there)), 0);
            refused("30: False: c can't be so", b -> { }, b -> one(b.scale(0, there, -6)), 0);
            refused("30: False: h can't be so", b -> { }, b -> one(b.scale(0, there, 6)), 0);
            refused("30: False: t can't be so", b -> b.put(0, 1, 2, Benches.bits(-6000)), b -> one(b.scale(0, there, 1)), 0);
            refused("30: False: h would be 0", b -> b.put(0, 2, 3, 1L), b -> one(b.scale(0, there, -1)), 0);
            refused("31: False: there would be more than 16", b -> b.join(Benches.FULL, Benches.EMPTY, 0, half), b -> one(b.join(0, 1, there, half)), 0);
        }
    }

    /** SYSTEM 1 becomes planes alone. */
    private static void flatten(LensBench b) {
        b.put(1, 0, 0, 0L);
        b.put(1, 1, 0, 0L);
    }

    /** SYSTEM 1 becomes planes alone, and with its TOLERANCE 1 a lens again. */
    private static void flattenBearing(LensBench b) {
        flatten(b);
        b.tolerance(1, 0, 0, 20000);
    }

    /** With its TOLERANCE 1 SYSTEM 0 is planes alone. */
    private static void bearPlanes(LensBench b) {
        b.tolerance(0, 0, 0, -20000);
        b.put(0, 1, 0, 0L);
    }

    private static void askingChangesNothing() {
        DUE.by("a call that only asks changes nothing");
        unchanged("all that asks", AS_MADE, b -> {
            b.index(0, 588);
            b.get(0, 0, 0);
            b.kind(0, 0, 0);
            b.at(0, 0);
            b.row(0, 0);
            b.spotted(2);
            b.cut(-1);
            b.merit(0);
            b.merit(Benches.FULL);
            b.step(0, 0);
            b.effect(0, 0);
            b.effect(Benches.FULL, 5);
            b.worstMerit();
            b.differ(0, 1);
            b.count(0, 0);
        });
        DUE.by("13, 15, 17, 18, 27: what is kept of the latest call is all that it changes");
        long[][] after = told(b -> {
            b.trace(1, 1);
            b.paraxial(2, 700, 1);
            b.spot(3, 2, 7);
            b.worst(Benches.FULL);
        });
        for (int part = 1; part < Benches.TOLD; part++) {
            DUE.same("trace, paraxial, spot, worst (part " + part + ")", after[part], AS_MADE[part]);
        }
    }
}
