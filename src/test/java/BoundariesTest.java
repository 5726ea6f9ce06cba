/**
 * The promises' own sentences that name a boundary: what the latest call leaves, what just turns its sign, the empty
 * and the full SYSTEM, what just can be so. EdgesTest goes over the arguments, TermsTest over the Terms.
 */
public final class BoundariesTest {
    private static final Due DUE = new Due("BoundariesTest");
    private static final int AIR = -1;

    private static long bits(double d) {
        return Benches.bits(d);
    }

    public static void main(String[] args) {
        clearingTheFull();
        latestTrace();
        latestRows();
        latestSpot();
        cutAtTheFirst();
        oneSurface();
        everyNumberVaried();
        everyNumberBorne();
        everyNumberSolved();
        solveAtTheTurn();
        solveWhereItRises();
        solveByHalves();
        solveInTheFull();
        reverseEmptyAndFull();
        wishesOfTo();
        scaleOfNumbers();
        scaleByAnotherE();
        scaleOfTheFull();
        joinUpToSixteen();
        joinOntoItself();
        differByTheLeast();
        counts();
        theWholeRun();
        DUE.end();
    }

    private static LensBench plano(double t) {
        LensBench b = new LensBench();
        Benches.add(b, 0, 0, false, 0.02, 0, t);
        Benches.add(b, 0, AIR, false);
        return b;
    }

    /** So many SURFACES more, each with its own numbers, air between and no MIRROR. */
    private static void stack(LensBench b, int s, int size) {
        for (int i = 0; i < size; i++) {
            Benches.add(b, s, AIR, false, 0.001 * (i + 1), i % 10, i == size - 1 ? 0 : i + 1, 100 + i);
        }
    }

    private static void wishes(LensBench b, int s) {
        for (int k = 0; k < 8; k++) {
            b.want(s, 0, 0, 1, 1, k);
        }
        for (int k = 0; k < 6; k++) {
            b.vary(s, 0, 0, -1000, k);
            b.tolerance(s, 0, 0, k + 1);
        }
    }

    private static void clearingTheFull() {
        DUE.by("5: A SYSTEM is empty again (PARTS, VARIABLES, TOLERANCES, too): how many SURFACES it had");
        LensBench b = Benches.ordinary();
        DUE.is("the empty one", b.clear(Benches.EMPTY), 0);
        DUE.is("the full one", b.clear(Benches.FULL), 16);
        for (int what = 0; what < 4; what++) {
            DUE.is("count(6, " + what + ")", b.count(Benches.FULL, what), 0);
        }
        DUE.is("no STEP", b.step(Benches.FULL, 0), -1);
        DUE.is("no EFFECT", b.effect(Benches.FULL, 0), -1);
        DUE.is("no number", b.get(Benches.FULL, 0, 0), -1);
        DUE.is("no MERIT", b.merit(Benches.FULL), -1);
        DUE.is("again", b.clear(Benches.FULL), 0);
        DUE.is("another has its PARTS", b.count(0, 1), 2);
        DUE.is("surface(6)", b.surface(Benches.FULL), 1);
        DUE.is("no PARTS: nought", b.merit(Benches.FULL), 0);
        DUE.is("the rows stay", b.row(15, 2) != -1, true);
    }

    private static void latestTrace() {
        DUE.by("13: Of the latest trace() that was not refused; -1 when it did not go through that SURFACE");
        LensBench b = new LensBench();
        DUE.is("ahead of any", b.at(0, 0), -1);
        stack(b, 0, 3);
        Benches.aim(b, 0, 1, 0, -1);
        DUE.is("through three", b.trace(0, 0), 0);
        DUE.is("the third", b.at(2, 0), bits(1));
        DUE.is("no fourth", b.at(3, 0), -1);
        b.put(0, 1, 3, bits(0.5));
        DUE.is("OUTSIDE the second", b.trace(0, 0), 201);
        DUE.is("the first", b.at(0, 0), bits(1));
        DUE.is("the second is not there now", b.at(1, 0), -1);
        DUE.is("nor the third", b.at(2, 0), -1);
        DUE.is("refused", b.trace(0, 8), -1);
        b.ray(1, 5, 0L);
        DUE.is("not UNIT", b.trace(0, 1), -2);
        DUE.is("still the first", b.at(0, 0), bits(1));
        b.clear(0);
        DUE.is("still, in no SYSTEM now", b.at(0, 0), bits(1));
        DUE.is("through none", b.trace(0, 0), 0);
        DUE.is("nothing of none", b.at(0, 0), -1);
    }

    private static void latestRows() {
        DUE.by("15: Of the latest paraxial() with SURFACES and a wavelength");
        LensBench b = new LensBench();
        DUE.is("ahead of any", b.row(0, 0), -1);
        stack(b, 0, 16);
        stack(b, 1, 1);
        b.behind(1, 0, 0, false);
        b.paraxial(0, 588, 0);
        DUE.is("sixteen", b.row(15, 2), bits(1));
        DUE.is("and no more", b.row(16, 2), -1);
        DUE.is("no wavelength", b.paraxial(1, 364, 0), -1);
        DUE.is("no wavelength", b.paraxial(1, 1015, 0), -1);
        DUE.is("no SURFACES", b.paraxial(2, 588, 0), -1);
        DUE.is("no SYSTEM", b.paraxial(8, 588, 0), -1);
        DUE.is("still sixteen", b.row(15, 2), bits(1));
        DUE.is("air as yet", b.row(0, 2), bits(1));
        b.put(1, 0, 0, 0L);
        DUE.is("NONE is no refusal", b.paraxial(1, 588, 1), -1);
        DUE.is("one row", b.row(0, 2), bits(1.5));
        DUE.is("and no more", b.row(1, 2), -1);
        b.glass(0, 0, 20000000);
        DUE.is("a what that is none", b.paraxial(1, 365, 2), -1);
        DUE.is("with SURFACES and a wavelength", b.row(0, 2), bits(2));
        b.clear(1);
        DUE.is("still, in no SYSTEM now", b.row(0, 2), bits(2));
    }

    private static void latestSpot() {
        DUE.by("17, 18: Of the latest spot() that was not refused");
        LensBench b = new LensBench();
        for (int i = -2; i < 17; i++) {
            DUE.is("ahead of any, cut(" + i + ")", b.cut(i), 0);
        }
        for (int what = 0; what < 4; what++) {
            DUE.is("ahead of any", b.spotted(what), -1);
        }
        for (int i = 0; i < 16; i++) {
            Benches.add(b, 0, AIR, false, 0, 0, 0, i == 15 ? 4 : 10);
        }
        DUE.is("4 of 12 come to the sixteenth", b.spot(0, 0, 4), 4);
        DUE.is("at the sixteenth", b.cut(15), 8);
        DUE.is("at none behind it", b.cut(16), 0);
        b.surface(1);
        DUE.is("another", b.spot(1, 0, 2), 4);
        DUE.is("none CUT now", b.cut(15), 0);
        DUE.is("four RAYS", b.cut(-1), 4);
        b.spot(0, 0, 4);
        DUE.is("no n", b.spot(1, 0, 0), -1);
        DUE.is("no n", b.spot(1, 0, 17), -1);
        DUE.is("no SURFACES", b.spot(2, 0, 2), -1);
        DUE.is("still", b.cut(15), 8);
        DUE.is("still", b.spotted(3), bits(Math.sqrt(12.5)));
    }

    private static void cutAtTheFirst() {
        DUE.by("18: i from 0 on how many were CUT at SURFACE i");
        LensBench b = new LensBench();
        Benches.add(b, 0, AIR, false, 0.25, 0, 0, 10);
        DUE.is("4 of 12 meet a sphere of 4", b.spot(0, 0, 4), 4);
        DUE.is("MISSED at the first", b.cut(0), 8);
        DUE.is("RAYS", b.cut(-1), 12);
        b.put(0, 0, 0, 0L);
        Benches.aim(b, 1, 0, 0, 0, 1, 0, 0);
        DUE.is("along a plane", b.spot(0, 1, 4), 0);
        DUE.is("all MISSED", b.cut(0), 12);
        DUE.is("none there", b.cut(1), 0);
        DUE.is("none spotted", b.spotted(0), -1);
    }

    private static void oneSurface() {
        DUE.by("one SURFACE is enough");
        LensBench b = new LensBench();
        Benches.add(b, 0, 0, false, 0.25);
        b.want(0, 0, 0, 1, 1, 14);
        b.vary(0, 0, 0, 0, 1000);
        b.tolerance(0, 0, 0, -125000);
        DUE.is("FOCAL: 3 / c", b.paraxial(0, 588, 0), bits(12));
        DUE.is("BACK", b.paraxial(0, 588, 1), bits(12));
        DUE.is("a row", b.row(0, 2), bits(1.5));
        DUE.is("spot", b.spot(0, 0, 1), 1);
        DUE.is("trace", b.trace(0, 0), 0);
        DUE.is("MERIT", b.merit(0), bits(4));
        DUE.is("EFFECT", b.effect(0, 0), bits(96));
        DUE.is("WORST", b.worst(0), 0);
        DUE.is("its MERIT", b.worstMerit(), bits(100));
        DUE.is("improve: 0.375 and 0.125 are worse", b.improve(0, 1), 0);
        DUE.is("solve", b.solve(0, 0, 0, 125, 500, 588, 6000), 1);
        DUE.is("reverse: no air behind", b.reverse(0, 1), false);
        DUE.is("scale", b.scale(0, 1, 1), true);
        DUE.is("join", b.join(0, 1, 2, 0L), true);
        DUE.is("differ", b.differ(0, 2), -1 + (b.count(2, 0) == 2 ? 2 : 0));
    }

    /** Four SURFACES, all of whose numbers but the last t play a part in the MERIT. */
    private static LensBench thick() {
        LensBench b = new LensBench();
        Benches.add(b, 0, 0, false, 0.03, 0.5, 3, 20);
        Benches.add(b, 0, 1, false, -0.02, -0.5, 2, 20);
        Benches.add(b, 0, AIR, false, 0.01, 1.5, 30, 20);
        Benches.add(b, 0, AIR, false, 0.002, -2, 0, 40);
        for (int line = 0; line < 12; line++) {
            b.glass(1, line, 17000000);
        }
        Benches.aim(b, 1, 0, 0, 0, 0.1, -0.2, Math.sqrt(0.95));
        b.put(0, 0, 3, bits(6));
        b.want(0, 2, 1, 4, 100, 0);
        b.want(0, 0, 0, 1, 1, 40);
        return b;
    }

    private static double meritWith(LensBench b, int i, int what, double number) {
        if (!b.put(0, i, what, bits(number))) {
            throw new IllegalStateException("the test is wrong");
        }
        return Benches.number(b.merit(0));
    }

    private static void everyNumberVaried() {
        DUE.by("21, 22: the number what (0 to 2) of a SURFACE, and no other");
        for (int i = 0; i < 4; i++) {
            for (int what = 0; what < 3; what++) {
                LensBench b = thick();
                LensBench twin = thick();
                int middle = (int) Math.round(1000 * Benches.number(b.get(0, i, what)));
                DUE.is("vary", b.vary(0, i, what, middle - 8, middle + 8), 1);
                double step = ((middle + 8) / 1000.0 - (middle - 8) / 1000.0) * 0.125;
                double x = Benches.number(b.get(0, i, what));
                double now = Benches.number(twin.merit(0));
                double due = x;
                if (meritWith(twin, i, what, x + step) < now) {
                    due = x + step;
                } else if (meritWith(twin, i, what, x - step) < now) {
                    due = x - step;
                }
                DUE.is("improve " + i + ", " + what, b.improve(0, 1), due == x ? 0 : 1);
                DUE.is("it moves, but for the last t", due != x, i < 3 || what < 2);
                twin.put(0, i, what, bits(due));
                b.scale(0, 7, 0);
                twin.scale(0, 7, 0);
                DUE.is("the number", b.get(0, i, what), bits(due));
                for (int k = 0; k < 16; k++) {
                    DUE.is("all the others", b.get(7, k / 4, k % 4), twin.get(7, k / 4, k % 4));
                }
                DUE.is("STEP", b.step(0, 0), bits(due == x ? step * 0.5 : step));
            }
        }
    }

    private static void everyNumberBorne() {
        DUE.by("24, 25, 26: a SURFACE, a number of it (0 to 2), by how much");
        for (int i = 0; i < 4; i++) {
            for (int what = 0; what < 3; what++) {
                LensBench b = thick();
                LensBench twin = thick();
                int by = what == 0 ? -700 : 90000;
                DUE.is("tolerance", b.tolerance(0, i, what, by), 1);
                double x = Benches.number(b.get(0, i, what));
                double now = Benches.number(twin.merit(0));
                double more = meritWith(twin, i, what, x + by / 1000000.0);
                double less = meritWith(twin, i, what, x - by / 1000000.0);
                DUE.is("effect " + i + ", " + what, b.effect(0, 0), bits(more - now));
                DUE.is("it has one, but for the last t", more != now, i < 3 || what < 2);
                DUE.is("worst", b.worst(0), less > more ? 1 : 0);
                DUE.is("its MERIT", b.worstMerit(), bits(Math.max(more, less)));
                DUE.is("the number is as it was", b.get(0, i, what), bits(x));
            }
        }
    }

    private static void everyNumberSolved() {
        DUE.by("28: The number what (0 to 2) of a SURFACE, and no other");
        for (int i = 0; i < 4; i++) {
            for (int what = 0; what < 3; what += 2) {
                LensBench b = thick();
                LensBench was = thick();
                double back = Benches.number(b.paraxial(0, 600, 1));
                int goal = (int) Math.floor(1000 * back);
                int middle = (int) Math.round(1000 * Benches.number(b.get(0, i, what)));
                int off = what == 0 ? 2 : 200;
                // From air to air, the last one plays no part.
                boolean plays = i < 3;
                DUE.is("solve " + i + ", " + what, b.solve(0, i, what, middle - off, middle + off, 600, goal), plays ? 1 : 0);
                if (plays) {
                    DUE.is("BACK", Math.abs(Benches.number(b.paraxial(0, 600, 1)) - goal / 1000.0) < 1e-9, true);
                }
                for (int k = 0; k < 16; k++) {
                    if (k != 4 * i + what) {
                        DUE.is("all the others", b.get(0, k / 4, k % 4), was.get(0, k / 4, k % 4));
                    }
                }
            }
        }
    }

    private static double backOf(double t) {
        double u = (1.0 * 0.0 - 1.0 * (0.02 * (1.5 - 1.0))) / 1.5;
        double y = 1.0 + t * u;
        u = (1.5 * u - y * (0.0 * (1.0 - 1.5))) / 1.0;
        return 0.0 - y / u;
    }

    private static void solveAtTheTurn() {
        DUE.by("28: one not above 0, the other not below 0; else 0");
        // BACK is 100 at t 0 and falls: what low gives is above what high gives.
        LensBench b = plano(7);
        DUE.is("low gives 0", b.solve(0, 0, 2, 0, 20000, 588, 100000), 1);
        DUE.is("nothing behind low is above 0, so low goes up", b.get(0, 0, 2), bits(20));
        b = plano(7);
        DUE.is("low gives 0.001", b.solve(0, 0, 2, 0, 20000, 588, 99999), 1);
        DUE.is("just behind low", Benches.number(b.get(0, 0, 2)) < 0.0016, true);
        b = plano(7);
        DUE.is("low gives -0.001, high less", b.solve(0, 0, 2, 0, 20000, 588, 100001), 0);
        DUE.is("t stays", b.get(0, 0, 2), bits(7));
        DUE.is("high gives 0", b.solve(0, 0, 2, -20000, 0, 588, 100000), 1);
        DUE.is("all ahead of high is above 0", Math.abs(Benches.number(b.get(0, 0, 2))) < 1e-12, true);
        b = plano(7);
        DUE.is("high gives 0.001, low more", b.solve(0, 0, 2, -20000, 0, 588, 99999), 0);
        DUE.is("t stays", b.get(0, 0, 2), bits(7));
        DUE.is("high gives -0.001", b.solve(0, 0, 2, -20000, 0, 588, 100001), 1);
        b = plano(0);
        DUE.is("both give 0", b.solve(0, 0, 1, -10000, 10000, 588, 100000), 1);
        DUE.is("low goes up to high", b.get(0, 0, 1), bits(10));
        DUE.is("the least goal", b.solve(0, 0, 2, 0, 20000, 588, Integer.MIN_VALUE), 0);
        DUE.is("the greatest goal", b.solve(0, 0, 2, 0, 20000, 588, Integer.MAX_VALUE), 0);
    }

    private static double risingBack(double c) {
        double u = (1.0 * 0.0 - 1.0 * (c * (0.75 - 1.0))) / 0.75;
        return 0.0 - 1.0 / u;
    }

    private static void solveWhereItRises() {
        DUE.by("28: one not above 0, the other not below 0; else 0 (BACK is -3 / c: it rises)");
        int[][] goals = {{-8001, 0}, {-8000, 1}, {-7999, 1}, {-4001, 1}, {-4000, 1}, {-3999, 0}};
        for (int[] goal : goals) {
            LensBench b = new LensBench();
            Benches.add(b, 0, 0, false, 0.5);
            b.glass(0, 5, 7500000);
            double low = 0.375;
            double high = 0.75;
            boolean above = risingBack(low) - goal[0] / 1000.0 > 0;
            for (int k = 0; k < 60; k++) {
                double middle = low + (high - low) * 0.5;
                if ((risingBack(middle) - goal[0] / 1000.0 > 0) == above) {
                    low = middle;
                } else {
                    high = middle;
                }
            }
            DUE.is("BACK from -8 to -4, goal " + goal[0], b.solve(0, 0, 0, 375, 750, 588, goal[0]), goal[1]);
            DUE.is("c", b.get(0, 0, 0), goal[1] == 0 ? bits(0.5) : bits(low + (high - low) * 0.5));
        }
    }

    private static void solveByHalves() {
        DUE.by("28: 60 times the middle becomes low or high; then the number is the middle of what they are then");
        int[][] spans = {{0, 20000, 90000}, {-10000000, 10000000, 12345}, {3, 4, 99998}, {-1, 1, 100000}, {14999, 15001, 90000}};
        for (int[] span : spans) {
            LensBench b = plano(1);
            double low = span[0] / 1000.0;
            double high = span[1] / 1000.0;
            double goal = span[2] / 1000.0;
            boolean up = backOf(low) - goal > 0;
            boolean turns = backOf(low) - goal >= 0 && backOf(high) - goal <= 0;
            for (int k = 0; k < 60; k++) {
                double middle = low + (high - low) * 0.5;
                if ((backOf(middle) - goal > 0) == up) {
                    low = middle;
                } else {
                    high = middle;
                }
            }
            double due = turns ? low + (high - low) * 0.5 : 1;
            DUE.is("solve", b.solve(0, 0, 2, span[0], span[1], 588, span[2]), turns ? 1 : 0);
            DUE.is("t", b.get(0, 0, 2), bits(due));
        }
        DUE.by("28: If a BACK is NONE on the way, 0. (With 0 the number stays.)");
        LensBench b = plano(1);
        DUE.is("the first middle is a plane", b.solve(0, 0, 0, -100, 100, 588, 0), 0);
        DUE.is("low is a plane", b.solve(0, 0, 0, 0, 100, 588, 50000), 0);
        DUE.is("high is a plane", b.solve(0, 0, 0, -100, 0, 588, -50000), 0);
        DUE.is("c stays", b.get(0, 0, 0), bits(0.02));
    }

    private static void solveInTheFull() {
        DUE.by("28: in the full SYSTEM, at its last SURFACE");
        LensBench b = new LensBench();
        for (int i = 0; i < 16; i++) {
            Benches.add(b, 7, AIR, i == 15, i == 15 ? -0.5 : 0, 0, 0);
        }
        DUE.is("c of a MIRROR: BACK is 1 / (2 c)", b.solve(7, 15, 0, -1000, -1, 588, -2000), 1);
        DUE.is("c", Math.abs(Benches.number(b.get(7, 15, 0)) + 0.25) < 1e-12, true);
        DUE.is("t of the last plays no part", b.solve(7, 15, 2, 0, 1000, 588, 0), 0);
        DUE.is("t stays", b.get(7, 15, 2), 0);
    }

    private static void reverseEmptyAndFull() {
        DUE.by("29: its SURFACES from the last to the first (none; one; 16)");
        LensBench b = new LensBench();
        stack(b, 1, 2);
        DUE.is("none", b.reverse(0, 1), true);
        DUE.is("none", b.count(1, 0), 0);
        DUE.is("none of its own", b.reverse(0, 0), true);
        stack(b, 2, 1);
        DUE.is("one", b.reverse(2, 3), true);
        DUE.is("one", b.count(3, 0), 1);
        DUE.is("-c", b.get(3, 0, 0), bits(-0.001));
        DUE.is("h", b.get(3, 0, 3), bits(100));
        stack(b, 4, 16);
        for (int i = 0; i < 15; i++) {
            b.behind(4, i, i, false);
        }
        DUE.is("sixteen", b.reverse(4, 7), true);
        for (int i = 0; i < 16; i++) {
            DUE.is("c", b.get(7, i, 0), bits(-0.001 * (16 - i)));
            DUE.is("k", b.get(7, i, 1), bits((15 - i) % 10));
            DUE.is("t", b.get(7, i, 2), bits(i == 15 ? 0 : 15 - i));
            DUE.is("h", b.get(7, i, 3), bits(115 - i));
            DUE.is("GLASS", b.kind(7, i, 0), 14 - i);
        }
        DUE.is("and back", b.reverse(7, 7), true);
        DUE.is("and back", b.differ(4, 7), -1);
    }

    private static void wishesOfTo() {
        DUE.by("29: (PARTS, VARIABLES, TOLERANCES of to go, here and below.)");
        for (int way = 0; way < 6; way++) {
            for (int to = 0; to < 2; to++) {
                LensBench b = new LensBench();
                stack(b, 0, 2);
                stack(b, 1, 2);
                b.behind(0, 0, 0, false);
                b.behind(1, 0, 0, false);
                wishes(b, 0);
                wishes(b, 1);
                boolean did = way % 3 == 0 ? b.reverse(0, way == 0 ? to : 8) : way % 3 == 1 ? b.scale(0, to, way == 1 ? 1 : 21)
                    : b.join(0, 1, to, way == 2 ? 0L : -1L);
                DUE.is("way " + way, did, way < 3);
                int[] most = {way == 2 ? 4 : 2, 8, 6, 6};
                for (int what = 1; what < 4; what++) {
                    DUE.is("of to", b.count(to, what), way < 3 ? 0 : most[what]);
                    DUE.is("of the other", b.count(1 - to, what), most[what]);
                }
                DUE.is("SURFACES", b.count(to, 0), way < 3 ? most[0] : 2);
                DUE.is("STEP", b.step(to, 5) == -1, way < 3);
                DUE.is("EFFECT", b.effect(to, 5) == -1, way < 3);
            }
        }
    }

    private static void scales(boolean due, int e, int what, double number) {
        LensBench b = new LensBench();
        Benches.add(b, 0, AIR, false, 0, 0, 0, 1);
        b.put(0, 0, what, bits(number));
        DUE.is("scale of " + number + " by 2^" + e, b.scale(0, 1, e), due);
        DUE.is("how many", b.count(1, 0), due ? 1 : 0);
        double by = Math.scalb(1.0, e);
        DUE.is("the number", b.get(1, 0, what), due ? bits((what == 0 ? number / by : number * by) + 0.0) : -1);
        DUE.is("s as it was", b.get(0, 0, what), bits(number));
    }

    private static void scaleOfNumbers() {
        DUE.by("30: c divided, t and h multiplied by 2^e (-20 .. 20): or a number can't be so");
        for (double sign = -1; sign < 2; sign += 2) {
            scales(true, -1, 0, sign * 0.5);
            scales(false, -1, 0, sign * Math.nextUp(0.5));
            scales(true, 1, 0, sign);
            scales(true, 1, 2, sign * 5000);
            scales(false, 1, 2, sign * Math.nextUp(5000.0));
            scales(true, -1, 2, sign * 10000);
            scales(true, -9, 0, sign * Math.scalb(1.0, -9));
            scales(false, -10, 0, sign * Math.scalb(1.0, -9));
            scales(true, 1, 0, sign * Double.MIN_VALUE);
            scales(true, -9, 2, sign * Double.MIN_VALUE);
        }
        scales(true, 1, 3, 500);
        scales(false, 1, 3, Math.nextUp(500.0));
        scales(true, -1, 3, 1000);
        scales(true, -1, 3, 2 * Double.MIN_VALUE);
        scales(true, -1, 3, 3 * Double.MIN_VALUE);
        scales(false, -1, 3, Double.MIN_VALUE);
        scales(false, -2, 3, 2 * Double.MIN_VALUE);
        scales(true, 20, 3, 1000 * Math.scalb(1.0, -20));
        scales(false, 20, 3, Math.nextUp(1000 * Math.scalb(1.0, -20)));
        scales(true, -20, 3, Math.scalb(1.0, -1054));
        scales(false, -20, 3, Math.scalb(1.0, -1055));
        DUE.by("30: k as it was");
        LensBench b = new LensBench();
        Benches.add(b, 0, AIR, false, 0, -10, 0, Math.scalb(1.0, -11));
        DUE.is("by 2^20", b.scale(0, 1, 20), true);
        DUE.is("k", b.get(1, 0, 1), bits(-10));
        DUE.is("by 2^-20", b.scale(0, 1, -20), true);
        DUE.is("k", b.get(1, 0, 1), bits(-10));
    }

    private static void scaleByAnotherE() {
        DUE.by("30: False: another e (though all numbers could be so)");
        for (int e : new int[] {-20, 20, -21, 21, -22, 22, 31, 32, 33, 64, 1000, -32, -64, Integer.MIN_VALUE, Integer.MAX_VALUE}) {
            LensBench b = new LensBench();
            Benches.add(b, 0, AIR, false, 0, 3, 0, Math.scalb(1.0, -100));
            stack(b, 1, 2);
            boolean can = e >= -20 && e <= 20;
            DUE.is("by 2^" + e, b.scale(0, 1, e), can);
            DUE.is("how many", b.count(1, 0), can ? 1 : 2);
            DUE.is("of the empty one by 2^" + e, b.scale(5, 1, e), can);
            DUE.is("how many", b.count(1, 0), can ? 0 : 2);
        }
    }

    private static void scaleOfTheFull() {
        DUE.by("30: False, and nothing is changed, if a number of the last SURFACE can't be so");
        LensBench b = new LensBench();
        stack(b, 0, 16);
        stack(b, 1, 5);
        b.put(0, 15, 2, bits(6000));
        for (int to = 0; to < 2; to++) {
            DUE.is("t of the sixteenth", b.scale(0, to, 1), false);
            DUE.is("how many", b.count(to, 0), to == 0 ? 16 : 5);
            DUE.is("c of the first", b.get(to, 0, 0), bits(0.001));
        }
        b.put(0, 15, 2, bits(-5000));
        DUE.is("now it can", b.scale(0, 0, 1), true);
        DUE.is("t of the sixteenth", b.get(0, 15, 2), bits(-10000));
        DUE.is("the empty one", b.scale(5, 0, -20), true);
        DUE.is("is empty", b.count(0, 0), 0);
    }

    private static void joinUpToSixteen() {
        DUE.by("31: False: a has none, there would be more than 16");
        for (int size = 0; size <= 16; size++) {
            for (int more : new int[] {16 - size, 17 - size, 0, 16}) {
                LensBench b = new LensBench();
                stack(b, 0, size);
                stack(b, 1, Math.min(more, 16));
                int both = size + Math.min(more, 16);
                boolean can = size > 0 && both <= 16;
                DUE.is("join of " + size + " and " + more, b.join(0, 1, 2, bits(-7)), can);
                DUE.is("how many", b.count(2, 0), can ? both : 0);
                DUE.is("t between", b.get(2, size - 1, 2), can ? bits(-7) : -1);
                DUE.is("a as it was", b.get(0, size - 1, 2), size > 0 ? 0 : -1);
                if (can && both > size) {
                    DUE.is("the first of b", b.get(2, size, 3), bits(100));
                    DUE.is("the last of b", b.get(2, both - 1, 3), bits(99 + both - size));
                    DUE.is("its t", b.get(2, both - 1, 2), 0);
                }
            }
        }
    }

    private static void joinOntoItself() {
        DUE.by("31: to may be a, b or both");
        for (int to = 0; to < 2; to++) {
            LensBench b = new LensBench();
            stack(b, 0, 3);
            stack(b, 1, 5);
            b.join(0, 1, 7, bits(9));
            DUE.is("onto " + to, b.join(0, 1, to, bits(9)), true);
            DUE.is("the same", b.differ(to, 7), -1);
        }
        LensBench b = new LensBench();
        stack(b, 0, 8);
        DUE.is("twice", b.join(0, 0, 0, bits(10000)), true);
        DUE.is("16", b.count(0, 0), 16);
        DUE.is("t between", b.get(0, 7, 2), bits(10000));
        DUE.is("t of the last", b.get(0, 15, 2), 0);
        DUE.is("once more", b.join(0, 0, 0, 0L), false);
        DUE.is("16", b.count(0, 0), 16);
        DUE.is("with the empty one", b.join(0, 3, 0, bits(-10000)), true);
        DUE.is("t of the last", b.get(0, 15, 2), bits(-10000));
    }

    private static void differByTheLeast() {
        DUE.by("32: The first SURFACE in which two SYSTEMS differ");
        LensBench b = new LensBench();
        stack(b, 0, 16);
        b.scale(0, 1, 0);
        DUE.is("two full ones", b.differ(0, 1), -1);
        DUE.is("itself", b.differ(1, 1), -1);
        for (int i = 15; i >= 0; i--) {
            for (int what = 3; what >= 0; what--) {
                long was = b.get(0, i, what);
                b.put(1, i, what, was + 1);
                DUE.is("by the least at " + i, b.differ(0, 1), i);
                DUE.is("and the other way", b.differ(1, 0), i);
                if (i % 4 != 0) {
                    b.put(1, i, what, was);
                }
            }
        }
        DUE.by("32: where just one has it, too");
        b = new LensBench();
        DUE.is("two empty ones", b.differ(0, 7), -1);
        for (int size = 1; size <= 16; size++) {
            b.surface(0);
            DUE.is("one more", b.differ(0, 7), size - 1);
            DUE.is("one more", b.differ(7, 0), size - 1);
            b.surface(7);
            DUE.is("the same", b.differ(0, 7), -1);
        }
        DUE.by("32: by GLASS or MIRROR; GLASSES of two MIRRORS are looked at, too");
        b.behind(0, 15, 15, true);
        DUE.is("by both", b.differ(0, 7), 15);
        b.behind(7, 15, -1, true);
        DUE.is("by GLASS", b.differ(0, 7), 15);
        b.behind(7, 15, 15, false);
        DUE.is("by MIRROR", b.differ(0, 7), 15);
        b.behind(7, 15, 15, true);
        DUE.is("the same", b.differ(0, 7), -1);
    }

    private static void counts() {
        DUE.by("33: 0 SURFACES, 1 PARTS, 2 VARIABLES, 3 TOLERANCES");
        LensBench b = Benches.ordinary();
        int[] full = {16, 8, 6, 6};
        int[] some = {3, 2, 1, 1};
        for (int what = 0; what < 4; what++) {
            DUE.is("of the full one", b.count(Benches.FULL, what), full[what]);
            DUE.is("of the empty one", b.count(Benches.EMPTY, what), 0);
            DUE.is("of another", b.count(0, what), some[what]);
        }
    }

    /** 512 calls of the dearest kinds on one object: they all end, and the last answers as the first. */
    private static void theWholeRun() {
        DUE.by("An object is used for at most 512 calls after it has been made");
        LensBench b = new LensBench();
        for (int i = 0; i < 16; i++) {
            b.surface(0);
        }
        b.put(0, 0, 0, bits(0.01));
        b.behind(0, 0, 0, false);
        for (int k = 0; k < 8; k++) {
            b.want(0, 2, k, 16, 1, 0);
        }
        for (int k = 0; k < 6; k++) {
            b.tolerance(0, k, 2, 1);
        }
        long merit = b.merit(0);
        long worst = b.worst(0);
        for (int calls = 34; calls < 510; calls++) {
            if (calls % 50 == 0) {
                b.worst(0);
            } else {
                b.spot(0, 0, 16);
            }
        }
        DUE.is("the same MERIT", b.merit(0), merit);
        DUE.is("the same way", b.worst(0), worst);
    }
}
