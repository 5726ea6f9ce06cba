import java.util.Arrays;

/** Benches that are set up for tests, and all that calls can tell of one. */
final class Benches {
    /** SYSTEM 5 of ordinary() is empty, 6 is full, the others hold lenses of one to three SURFACES. */
    static final int EMPTY = 5;
    static final int FULL = 6;
    static final int SMALL = 7;
    /** How many parts tell() has: a bench is good for 512 calls, so each part is told by a new one. */
    static final int TOLD = 6;

    private Benches() {
    }

    static long bits(double d) {
        return Double.doubleToRawLongBits(d);
    }

    static double number(long bits) {
        return Double.longBitsToDouble(bits);
    }

    /** One SURFACE more with these numbers: c, k, t, h as far as they are told. */
    static void add(LensBench b, int s, int glass, boolean mirror, double... numbers) {
        int i = b.surface(s) - 1;
        boolean fine = i >= 0 && b.behind(s, i, glass, mirror);
        for (int what = 0; what < numbers.length; what++) {
            fine &= b.put(s, i, what, bits(numbers[what]));
        }
        if (!fine) {
            throw new IllegalStateException("a SURFACE that a test needs was refused");
        }
    }

    static void aim(LensBench b, int r, double... numbers) {
        for (int what = 0; what < numbers.length; what++) {
            if (!b.ray(r, what, bits(numbers[what]))) {
                throw new IllegalStateException("a RAY that a test needs was refused");
            }
        }
    }

    /** A bench with something of each kind: each number differs from what it is at first. */
    static LensBench ordinary() {
        LensBench b = new LensBench();
        b.glass(0, 5, 15168000);
        b.glass(0, 3, 15223800);
        b.glass(1, 5, 17483000);
        b.glass(15, 11, 40000000);
        add(b, 0, 0, false, 0.02, 0.5, 4, 9);
        add(b, 0, -1, false, -0.015, -1, 90, 7);
        add(b, 0, -1, false, 0, 0, 0, 60);
        for (int s = 1; s < 5; s++) {
            b.scale(0, s, s - 2);
        }
        for (int s = 0; s < 5; s++) {
            b.want(s, 2, 0, 3, 5, 0);
            b.want(s, 0, 1, 1, 2 + s, 50);
            b.vary(s, 0, 0, -5, 40 + s);
            b.tolerance(s, 1, 2, -500000 + s);
        }
        fill(b);
        add(b, SMALL, 1, true, Math.scalb(1.0, -20), 2, Math.scalb(1.0, -7), Math.scalb(1.0, -11));
        aim(b, 1, 1, 2, -3, 0.6, 0, 0.8);
        aim(b, 2, -1, 0.5, -7, 0, -0.28, 0.96);
        aim(b, 3, 0, 0, 0, 0, 0, 0.5);
        for (int r = 1; r < 8; r++) {
            b.wave(r, 400 + 70 * r);
        }
        b.trace(0, 2);
        b.spot(0, 2, 5);
        b.paraxial(FULL, 588, 0);
        b.worst(0);
        return b;
    }

    /** 16 SURFACES, 8 PARTS, 6 VARIABLES, 6 TOLERANCES. */
    private static void fill(LensBench b) {
        for (int i = 0; i < 16; i++) {
            b.surface(FULL);
        }
        for (int i = 0; i < 3; i++) {
            b.put(FULL, i, 0, bits(0.01 - 0.004 * i));
            b.put(FULL, i, 2, bits(3 + i));
            b.behind(FULL, i, i - 1, i == 2);
        }
        b.behind(FULL, 3, -1, true);
        for (int k = 0; k < 8; k++) {
            b.want(FULL, k % 3, k % 3 == 2 ? 0 : k, 1 + (k % 3 == 2 ? k : 0), 10 + k, k);
        }
        for (int k = 0; k < 6; k++) {
            b.vary(FULL, k % 3, k % 2 == 0 ? 0 : 2, -10, 10000 * (k % 2) + 20);
            b.tolerance(FULL, k % 3, k % 2, 900 + k);
        }
    }

    /** All that is told of a bench, part 0 to TOLD - 1 of it. */
    static long[] tell(LensBench b, int part) {
        Told told = new Told();
        switch (part) {
            case 0: results(b, told); break;
            case 1: glasses(b, told); break;
            case 2: surfaces(b, told, 0, 1, 2, 3, 4, EMPTY, SMALL); break;
            case 3: surfaces(b, told, FULL); wishes(b, told, FULL); break;
            case 4: rays(b, told); break;
            default: wishes(b, told, 0, 1, 2, 3, 4, EMPTY, SMALL); break;
        }
        return told.all();
    }

    private static void results(LensBench b, Told told) {
        for (int i = 0; i < 16; i++) {
            for (int what = 0; what < 7; what++) {
                told.add(b.at(i, what));
            }
            for (int what = 0; what < 3; what++) {
                told.add(b.row(i, what));
            }
        }
        for (int what = 0; what < 4; what++) {
            told.add(b.spotted(what));
        }
        for (int i = -1; i < 16; i++) {
            told.add(b.cut(i));
        }
        told.add(b.worstMerit());
    }

    private static void glasses(LensBench b, Told told) {
        for (int w : RefBench.LINES) {
            for (int g = -1; g < 16; g++) {
                told.add(b.index(g, w));
            }
        }
    }

    private static void surfaces(LensBench b, Told told, int... systems) {
        for (int s : systems) {
            for (int what = 0; what < 4; what++) {
                told.add(b.count(s, what));
            }
            for (int i = 0; i < b.count(s, 0); i++) {
                for (int what = 0; what < 4; what++) {
                    told.add(b.get(s, i, what));
                }
                told.add(b.kind(s, i, 0));
                told.add(b.kind(s, i, 1));
            }
        }
    }

    /** Where each RAY goes in SYSTEM 0, and its BUNDLE, so that its direction and wavelength are told, too. */
    private static void rays(LensBench b, Told told) {
        for (int r = 0; r < 8; r++) {
            told.add(b.trace(0, r));
            for (int i = 0; i < 2; i++) {
                for (int what = 0; what < 7; what++) {
                    told.add(b.at(i, what));
                }
            }
            told.add(b.spot(0, r, 2));
            told.add(b.spotted(0));
            told.add(b.spotted(1));
            told.add(b.spotted(2));
        }
    }

    private static void wishes(LensBench b, Told told, int... systems) {
        for (int s : systems) {
            told.add(b.merit(s));
            for (int k = 0; k < b.count(s, 2); k++) {
                told.add(b.step(s, k));
            }
            for (int k = 0; k < b.count(s, 3); k++) {
                told.add(b.effect(s, k));
            }
            told.add(b.worst(s));
            told.add(b.worstMerit());
            told.add(b.improve(s, 2));
            for (int k = 0; k < b.count(s, 2); k++) {
                told.add(b.step(s, k));
            }
            for (int i = 0; i < Math.min(3, b.count(s, 0)); i++) {
                told.add(b.get(s, i, 0));
                told.add(b.get(s, i, 2));
            }
        }
    }

    /** A row of longs that grows. */
    private static final class Told {
        private long[] row = new long[512];
        private int size = 0;

        void add(long v) {
            row[size++] = v;
        }

        long[] all() {
            return Arrays.copyOf(row, size);
        }
    }
}
