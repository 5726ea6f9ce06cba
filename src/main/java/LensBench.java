import java.util.Arrays;

/**
 * A lens maker's bench: glasses, systems of planes, spheres and conics, rays led through them,
 * paraxial rows, bundles and their spots, merits, tolerances and systems made of others.
 */
public final class LensBench {
    public static final int NONE = -1;

    private static final int NO_SUCH = -2;
    private static final int NOT_UNIT = -2;
    private static final long NO_BITS = -1L;
    private static final int SYSTEMS = 8;
    private static final int RAYS = 8;
    private static final int MOST_SURFACES = 16;
    private static final int MOST_PARTS = 8;
    private static final int MOST_VARIABLES = 6;
    private static final int MOST_TOLERANCES = 6;
    private static final int MOST_ACROSS = 16;
    private static final int MOST_ROUNDS = 10;
    private static final int MOST_WEIGHT = 1000;
    private static final int MOST_GOAL = 10000;
    private static final int MOST_SCALING = 20;
    private static final int AIR = -1;

    private static final int CURVE = 0;
    private static final int CONIC = 1;
    private static final int WAY = 2;
    private static final int HEIGHT = 3;
    private static final int SURFACE_NUMBERS = 4;

    private static final int FOCAL = 0;
    private static final int BACK = 1;
    private static final int SPREAD = 2;

    private final Numbers numbers;
    private final Glasses glasses;
    private final Train[] trains;
    private final Beam[] beams;
    private final Train scratch;
    private final Tracer tracer;
    private final Rows rows;
    private final Bundle bundle;
    private final Judge judge;
    private boolean worstAsked;
    private double worstValue;

    public LensBench() {
        numbers = new Numbers();
        glasses = new Glasses();
        trains = new Train[SYSTEMS];
        for (int s = 0; s < SYSTEMS; s++) {
            trains[s] = new Train();
        }
        beams = new Beam[RAYS];
        for (int r = 0; r < RAYS; r++) {
            beams[r] = new Beam();
        }
        scratch = new Train();
        ExactSum sum = new ExactSum(numbers);
        Tracer inBundles = new Tracer(numbers, sum, false);
        tracer = new Tracer(numbers, sum, true);
        rows = new Rows(glasses);
        bundle = new Bundle(glasses, inBundles, numbers, sum);
        // Merits have rows and a bundle of their own: row(), spotted() and cut() must outlive them.
        judge = new Judge(beams, new Rows(glasses), new Bundle(glasses, inBundles, numbers, sum));
        worstAsked = false;
        worstValue = 0.0;
    }

    public boolean glass(int g, int line, int n) {
        if (g < 0 || g >= Glasses.GLASSES || line < 0 || line >= Glasses.LINES) {
            return false;
        }
        if (n < Glasses.LEAST || n > Glasses.MOST) {
            return false;
        }
        glasses.tenMillionths[g * Glasses.LINES + line] = n;
        return true;
    }

    public long index(int g, int w) {
        if (!isGlass(g) || !isWave(w)) {
            return NO_BITS;
        }
        return numbers.toBits(glasses.indexOf(g, w));
    }

    public int surface(int s) {
        Train train = train(s);
        if (train == null || train.size >= MOST_SURFACES) {
            return NONE;
        }
        train.append();
        return train.size;
    }

    public int clear(int s) {
        Train train = train(s);
        if (train == null) {
            return NONE;
        }
        int had = train.size;
        train.size = 0;
        train.forgetWishes();
        return had;
    }

    public boolean put(int s, int i, int what, long bits) {
        Train train = train(s);
        if (!hasSurface(train, i) || what < CURVE || what > HEIGHT || !numbers.isFinite(bits)) {
            return false;
        }
        double number = numbers.fromBits(bits);
        if (!canBe(what, number)) {
            return false;
        }
        train.numbers[i * SURFACE_NUMBERS + what] = number;
        return true;
    }

    public boolean behind(int s, int i, int glass, boolean mirror) {
        Train train = train(s);
        if (!hasSurface(train, i) || !isGlass(glass)) {
            return false;
        }
        train.glass[i] = glass;
        train.mirror[i] = mirror;
        return true;
    }

    public long get(int s, int i, int what) {
        Train train = train(s);
        if (!hasSurface(train, i) || what < CURVE || what > HEIGHT) {
            return NO_BITS;
        }
        return numbers.toBits(train.numbers[i * SURFACE_NUMBERS + what]);
    }

    public int kind(int s, int i, int what) {
        Train train = train(s);
        if (!hasSurface(train, i) || what < 0 || what > 1) {
            return NO_SUCH;
        }
        if (what == 0) {
            return train.glass[i];
        }
        return train.mirror[i] ? 1 : 0;
    }

    public boolean ray(int r, int what, long bits) {
        Beam beam = beam(r);
        if (beam == null || what < 0 || what >= Beam.NUMBERS || !numbers.isFinite(bits)) {
            return false;
        }
        double number = numbers.fromBits(bits);
        double most = what < Beam.K ? 1000000.0 : 1.0;
        if (number < 0.0 - most || number > most) {
            return false;
        }
        beam.numbers[what] = number;
        return true;
    }

    public boolean wave(int r, int w) {
        Beam beam = beam(r);
        if (beam == null || !isWave(w)) {
            return false;
        }
        beam.wavelength = w;
        return true;
    }

    public int trace(int s, int r) {
        Train train = train(s);
        Beam beam = beam(r);
        if (train == null || beam == null) {
            return NONE;
        }
        if (!beam.isUnit()) {
            return NOT_UNIT;
        }
        glasses.fillBehind(train, beam.wavelength);
        tracer.start(beam.numbers[Beam.X], beam.numbers[Beam.Y], beam.numbers[Beam.Z]);
        tracer.aim(beam);
        return tracer.lead(train, glasses.behind);
    }

    public long at(int i, int what) {
        if (i < 0 || i >= tracer.passed || what < 0 || what >= Tracer.KEPT) {
            return NO_BITS;
        }
        return numbers.toBits(tracer.kept[i * Tracer.KEPT + what]);
    }

    public long paraxial(int s, int w, int what) {
        Train train = train(s);
        if (train == null || train.size == 0 || !isWave(w)) {
            return NO_BITS;
        }
        // Promise 15 asks for SURFACES and a wavelength alone, so the rows come ahead of what.
        rows.fill(train, w);
        if ((what != FOCAL && what != BACK) || !rows.find(what)) {
            return NO_BITS;
        }
        return numbers.toBits(rows.found);
    }

    public long row(int i, int what) {
        if (i < 0 || i >= rows.size || what < 0 || what >= Rows.KEPT) {
            return NO_BITS;
        }
        return numbers.toBits(rows.kept[i * Rows.KEPT + what]);
    }

    public int spot(int s, int r, int n) {
        Train train = train(s);
        Beam beam = beam(r);
        if (train == null || beam == null || n < 1 || n > MOST_ACROSS) {
            return NONE;
        }
        if (train.size == 0 || !beam.isUnit()) {
            return NONE;
        }
        int passed = bundle.shine(train, beam, n);
        bundle.findGreatest();
        return passed;
    }

    public long spotted(int what) {
        if (bundle.passed == 0) {
            return NO_BITS;
        }
        switch (what) {
            case 0:
                return bitsIfFinite(bundle.centreX);
            case 1:
                return bitsIfFinite(bundle.centreY);
            case 2:
                return bitsIfFinite(bundle.spread);
            case 3:
                return bitsIfFinite(bundle.greatest);
            default:
                return NO_BITS;
        }
    }

    public int cut(int i) {
        if (i == -1) {
            return bundle.all;
        }
        return i >= 0 && i < MOST_SURFACES ? bundle.cuts[i] : 0;
    }

    public int want(int s, int kind, int r, int n, int weight, int goal) {
        Train train = train(s);
        if (train == null || train.parts >= MOST_PARTS || beam(r) == null) {
            return NONE;
        }
        if (kind < FOCAL || kind > SPREAD || n < 1 || n > (kind == SPREAD ? MOST_ACROSS : 1)) {
            return NONE;
        }
        if (weight < 0 || weight > MOST_WEIGHT || goal < -MOST_GOAL || goal > MOST_GOAL) {
            return NONE;
        }
        int k = train.parts;
        train.partKind[k] = kind;
        train.partRay[k] = r;
        train.partAcross[k] = n;
        train.partWeight[k] = weight;
        train.partGoal[k] = goal;
        train.parts = k + 1;
        return train.parts;
    }

    public long merit(int s) {
        Train train = train(s);
        if (train == null || train.size == 0) {
            return NO_BITS;
        }
        return numbers.toBits(judge.value(train));
    }

    public int vary(int s, int i, int what, int low, int high) {
        Train train = train(s);
        if (!hasSurface(train, i) || train.variables >= MOST_VARIABLES) {
            return NONE;
        }
        if (!canSpan(what, low, high)) {
            return NONE;
        }
        int k = train.variables;
        train.variableSlot[k] = i * SURFACE_NUMBERS + what;
        train.variableLow[k] = low / 1000.0;
        train.variableHigh[k] = high / 1000.0;
        train.variableStep[k] = (train.variableHigh[k] - train.variableLow[k]) * 0.125;
        train.variables = k + 1;
        return train.variables;
    }

    public int improve(int s, int rounds) {
        Train train = train(s);
        if (train == null || train.size == 0 || rounds < 1 || rounds > MOST_ROUNDS) {
            return NONE;
        }
        if (!train.isWithinBounds()) {
            return NONE;
        }
        double merit = judge.value(train);
        if (!Numbers.isNumber(merit)) {
            return NONE;
        }
        judge.now = merit;
        int moved = 0;
        for (int round = 0; round < rounds; round++) {
            moved += judge.improveOnce(train);
        }
        return moved;
    }

    public long step(int s, int k) {
        Train train = train(s);
        if (train == null || k < 0 || k >= train.variables) {
            return NO_BITS;
        }
        return numbers.toBits(train.variableStep[k]);
    }

    public int tolerance(int s, int i, int what, int by) {
        Train train = train(s);
        if (!hasSurface(train, i) || what < CURVE || what > WAY) {
            return NONE;
        }
        if (by == 0 || train.tolerances >= MOST_TOLERANCES) {
            return NONE;
        }
        int k = train.tolerances;
        train.toleranceSlot[k] = i * SURFACE_NUMBERS + what;
        train.toleranceBy[k] = by / 1000000.0;
        train.tolerances = k + 1;
        return train.tolerances;
    }

    public long effect(int s, int k) {
        Train train = train(s);
        if (train == null || train.size == 0 || k < 0 || k >= train.tolerances) {
            return NO_BITS;
        }
        double merit = judge.value(train);
        int slot = train.toleranceSlot[k];
        double number = train.numbers[slot];
        train.numbers[slot] = number + train.toleranceBy[k];
        double moved = judge.value(train);
        train.numbers[slot] = number;
        if (!Numbers.isNumber(merit) || !Numbers.isNumber(moved)) {
            return NO_BITS;
        }
        return numbers.toBits(moved - merit);
    }

    public int worst(int s) {
        Train train = train(s);
        if (train == null || train.size == 0) {
            return NONE;
        }
        int way = judge.worstWay(train, scratch);
        worstAsked = true;
        worstValue = judge.now;
        return way;
    }

    public long worstMerit() {
        return worstAsked ? numbers.toBits(worstValue) : NO_BITS;
    }

    public int solve(int s, int i, int what, int low, int high, int w, int goal) {
        Train train = train(s);
        if (!hasSurface(train, i) || !isWave(w) || !canSpan(what, low, high)) {
            return NONE;
        }
        int slot = i * SURFACE_NUMBERS + what;
        double number = train.numbers[slot];
        if (judge.halve(train, slot, low / 1000.0, high / 1000.0, w, goal / 1000.0)) {
            return 1;
        }
        train.numbers[slot] = number;
        return 0;
    }

    public boolean reverse(int s, int to) {
        Train from = train(s);
        Train target = train(to);
        if (from == null || target == null || !from.canTurn()) {
            return false;
        }
        scratch.size = 0;
        for (int i = from.size - 1; i >= 0; i--) {
            scratch.appendCopy(from, i);
            int made = scratch.size - 1;
            int first = made * SURFACE_NUMBERS;
            scratch.numbers[first + CURVE] = 0.0 - scratch.numbers[first + CURVE];
            scratch.numbers[first + WAY] = i > 0 ? from.numberOf(i - 1, WAY) : 0.0;
            scratch.glass[made] = i > 0 ? from.glass[i - 1] : AIR;
        }
        target.become(scratch);
        return true;
    }

    public boolean scale(int s, int to, int e) {
        Train from = train(s);
        Train target = train(to);
        if (from == null || target == null || e < -MOST_SCALING || e > MOST_SCALING) {
            return false;
        }
        double by = numbers.power(e);
        scratch.size = 0;
        for (int i = 0; i < from.size; i++) {
            scratch.appendCopy(from, i);
            // What is added makes 0 of a -0 that a tiny number became.
            double c = from.numberOf(i, CURVE) / by + 0.0;
            double t = from.numberOf(i, WAY) * by + 0.0;
            double h = from.numberOf(i, HEIGHT) * by;
            if (!canBe(CURVE, c) || !canBe(WAY, t) || !canBe(HEIGHT, h)) {
                return false;
            }
            int first = i * SURFACE_NUMBERS;
            scratch.numbers[first + CURVE] = c;
            scratch.numbers[first + WAY] = t;
            scratch.numbers[first + HEIGHT] = h;
        }
        target.become(scratch);
        return true;
    }

    public boolean join(int a, int b, int to, long t) {
        Train front = train(a);
        Train rear = train(b);
        Train target = train(to);
        if (front == null || rear == null || target == null || front.size == 0) {
            return false;
        }
        if (front.size + rear.size > MOST_SURFACES || !numbers.isFinite(t)) {
            return false;
        }
        double between = numbers.fromBits(t);
        if (!canBe(WAY, between)) {
            return false;
        }
        scratch.size = 0;
        for (int i = 0; i < front.size; i++) {
            scratch.appendCopy(front, i);
        }
        scratch.numbers[(front.size - 1) * SURFACE_NUMBERS + WAY] = between;
        for (int i = 0; i < rear.size; i++) {
            scratch.appendCopy(rear, i);
        }
        target.become(scratch);
        return true;
    }

    public int differ(int s, int t) {
        Train one = train(s);
        Train other = train(t);
        if (one == null || other == null) {
            return NO_SUCH;
        }
        int both = Math.min(one.size, other.size);
        for (int i = 0; i < both; i++) {
            if (!one.isAlike(other, i)) {
                return i;
            }
        }
        return one.size == other.size ? NONE : both;
    }

    public int count(int s, int what) {
        Train train = train(s);
        if (train == null) {
            return NONE;
        }
        switch (what) {
            case 0:
                return train.size;
            case 1:
                return train.parts;
            case 2:
                return train.variables;
            case 3:
                return train.tolerances;
            default:
                return NONE;
        }
    }

    private Train train(int s) {
        return s >= 0 && s < SYSTEMS ? trains[s] : null;
    }

    private Beam beam(int r) {
        return r >= 0 && r < RAYS ? beams[r] : null;
    }

    private long bitsIfFinite(double number) {
        return Numbers.isNumber(number) ? numbers.toBits(number) : NO_BITS;
    }

    private static boolean hasSurface(Train train, int i) {
        return train != null && i >= 0 && i < train.size;
    }

    private static boolean isGlass(int g) {
        return g >= AIR && g < Glasses.GLASSES;
    }

    private static boolean isWave(int w) {
        return w >= Glasses.SHORTEST && w <= Glasses.LONGEST;
    }

    private static boolean canBe(int what, double number) {
        if (what == HEIGHT) {
            return number > 0.0 && number <= 1000.0;
        }
        double most = what == CURVE ? 1.0 : what == CONIC ? 10.0 : 10000.0;
        return number >= 0.0 - most && number <= most;
    }

    private static boolean canSpan(int what, int low, int high) {
        if (what < CURVE || what > WAY || low >= high) {
            return false;
        }
        return canBe(what, low / 1000.0) && canBe(what, high / 1000.0);
    }

    /** Doubles taken apart and put together, as the language leaves no call that does it. */
    static final class Numbers {
        private static final int STEPS = 10;
        private static final long FRACTION = (1L << 52) - 1L;
        private static final long SIGN = 1L << 63;
        private static final int ALL_ONES = 2047;

        private final double[] up;
        private final double[] down;
        /** What takeApart() found: the number is whole * 2^exponent, whole from 2^52 on, below 2^53. */
        long whole;
        int exponent;

        Numbers() {
            up = new double[STEPS];
            down = new double[STEPS];
            up[0] = 2.0;
            down[0] = 0.5;
            for (int k = 1; k < STEPS; k++) {
                up[k] = up[k - 1] * up[k - 1];
                down[k] = down[k - 1] * down[k - 1];
            }
        }

        static boolean isNumber(double v) {
            return v >= -1.7976931348623157E308 && v <= 1.7976931348623157E308;
        }

        static double infinite() {
            return 1.0E308 * 10.0;
        }

        boolean isFinite(long bits) {
            return ((int) (bits >>> 52) & ALL_ONES) != ALL_ONES;
        }

        /** The number that finite bits tell, 0 for -0. */
        double fromBits(long bits) {
            int biased = (int) (bits >>> 52) & ALL_ONES;
            long mantissa = bits & FRACTION;
            double size;
            if (biased == 0) {
                size = (double) mantissa * power(-1074);
            } else {
                size = (double) (mantissa | (FRACTION + 1L)) * power(biased - 1075);
            }
            return bits < 0L ? 0.0 - size : size;
        }

        long toBits(double v) {
            if (v == 0.0) {
                return 1.0 / v < 0.0 ? SIGN : 0L;
            }
            long sign = v < 0.0 ? SIGN : 0L;
            double size = v < 0.0 ? 0.0 - v : v;
            if (!isNumber(size)) {
                return sign | ((long) ALL_ONES << 52);
            }
            takeApart(size);
            int biased = exponent + 1075;
            if (biased > 0) {
                return sign | ((long) biased << 52) | (whole & FRACTION);
            }
            return sign | (whole >>> (1 - biased));
        }

        /** 2^e, exactly, for e from -1074 to 1023. */
        double power(int e) {
            int left = e < 0 ? -e : e;
            double made = 1.0;
            for (int k = 0; k < STEPS; k++) {
                if ((left & (1 << k)) != 0) {
                    made = made * (e < 0 ? down[k] : up[k]);
                }
            }
            // 2^-1024 has no place in the row, but is two steps of 2^-512.
            return left >= 1024 ? made * down[STEPS - 1] * down[STEPS - 1] : made;
        }

        /** Takes a finite number above 0 apart. */
        void takeApart(double v) {
            double left = v;
            int e = 0;
            if (left < 1.0E-150) {
                left = left * up[STEPS - 1];
                e = -512;
            }
            if (left < 4503599627370496.0) {
                for (int k = STEPS - 1; k >= 0; k--) {
                    double next = left * up[k];
                    if (next < 9007199254740992.0) {
                        left = next;
                        e -= 1 << k;
                    }
                }
            } else {
                for (int k = STEPS - 1; k >= 0; k--) {
                    double next = left * down[k];
                    if (next >= 4503599627370496.0) {
                        left = next;
                        e += 1 << k;
                    }
                }
            }
            whole = (long) left;
            exponent = e;
        }

        /** The square root of a finite number that is not below 0, rounded once. */
        double root(double v) {
            if (!(v > 0.0)) {
                return 0.0;
            }
            double part = v;
            double scaling = 1.0;
            // Most roots of a ray are of numbers a little below 1: they need not be taken apart.
            if (v >= 0.25 && v < 1.0) {
                part = v * 4.0;
                scaling = 0.5;
            } else if (v < 0.25 || v >= 4.0) {
                takeApart(v);
                int e = exponent + 52;
                int odd = e & 1;
                part = (double) (whole << odd) * 2.220446049250313E-16;
                scaling = power((e - odd) / 2);
            }
            return rootOfPart(part) * scaling;
        }

        /** The root of a number from 1 on, below 4. */
        private static double rootOfPart(double part) {
            // The line is within 3 per cent of the root; four steps of Newton's leave the last bit.
            double near = 0.6863 + 0.34315 * part;
            for (int k = 0; k < 4; k++) {
                near = 0.5 * (near + part / near);
            }
            // Of square = part * 2^104 and whole * whole only the difference is looked at:
            // it fits a long, so that what runs over in both does no harm.
            long square = (long) (part * 4503599627370496.0) << 52;
            long whole = (long) (near * 4503599627370496.0);
            long over = square - whole * whole;
            for (int k = 0; k < 8 && over < 0L; k++) {
                whole--;
                over += 2L * whole + 1L;
            }
            for (int k = 0; k < 8 && over > 2L * whole; k++) {
                over -= 2L * whole + 1L;
                whole++;
            }
            // The half lies at over = whole + 1/4: it is never met.
            if (over > whole) {
                whole++;
            }
            return (double) whole * 2.220446049250313E-16;
        }
    }

    /** A sum of doubles and of their squares, held exactly. */
    static final class ExactSum {
        /** Digit 0 begins at 2^-2272: the least double is 2^52 * 2^-1126 once it is taken apart. */
        private static final int BELOW = 2272;
        private static final int DIGITS = 84;
        private static final int HIGHEST_BIT = 32 * (DIGITS - 4);
        private static final long DIGIT = (1L << 32) - 1L;
        private static final long LOWER_HALF = (1L << 27) - 1L;

        private final Numbers numbers;
        private final long[] digits;
        private int low;
        private int high;

        ExactSum(Numbers theNumbers) {
            numbers = theNumbers;
            digits = new long[DIGITS];
            low = DIGITS;
            high = -1;
        }

        void empty() {
            if (low <= high) {
                Arrays.fill(digits, low, high + 1, 0L);
            }
            low = DIGITS;
            high = -1;
        }

        void add(double v) {
            if (v != 0.0) {
                numbers.takeApart(v < 0.0 ? 0.0 - v : v);
                place(numbers.whole, numbers.exponent, v < 0.0);
            }
        }

        void addSquare(double v, boolean less) {
            if (v != 0.0) {
                numbers.takeApart(v < 0.0 ? 0.0 - v : v);
                long upper = numbers.whole >>> 27;
                long lower = numbers.whole & LOWER_HALF;
                int bit = 2 * numbers.exponent;
                place(lower * lower, bit, less);
                place(2L * upper * lower, bit + 27, less);
                place(upper * upper, bit + 54, less);
            }
        }

        /** Adds v * 2^bit, v from 0 on, below 2^56; no number of the bench lies off the digits. */
        private void place(long v, int bit, boolean less) {
            int from = bit + BELOW;
            if (from < 0 || from > HIGHEST_BIT) {
                return;
            }
            int i = from >> 5;
            int shift = from & 31;
            long lower = (v & DIGIT) << shift;
            long upper = (v >>> 32) << shift;
            long middle = (lower >>> 32) + (upper & DIGIT);
            long sign = less ? -1L : 1L;
            digits[i] += sign * (lower & DIGIT);
            digits[i + 1] += sign * middle;
            digits[i + 2] += sign * (upper >>> 32);
            if (i < low) {
                low = i;
            }
            if (i + 2 > high) {
                high = i + 2;
            }
        }

        /** Brings all digits but the top one to 0 .. 2^32 - 1; the top one has the sign. */
        private void carry() {
            if (low > high) {
                return;
            }
            long over = 0L;
            for (int i = low; i <= high && i < DIGITS; i++) {
                long digit = digits[i] + over;
                digits[i] = digit & DIGIT;
                over = digit >> 32;
            }
            if (over != 0L && high + 1 < DIGITS) {
                high++;
                digits[high] = over;
            }
        }

        private boolean isBelowZero() {
            return low <= high && high < DIGITS && digits[high] < 0L;
        }

        private int topDigit() {
            for (int i = Math.min(high, DIGITS - 1); i >= low; i--) {
                if (digits[i] != 0L) {
                    return i;
                }
            }
            return -1;
        }

        /** Whether x x + y y is above h h. */
        boolean isBeyond(double x, double y, double h) {
            if (x > h || y > h || x < 0.0 - h || y < 0.0 - h) {
                return true;
            }
            double square = x * x + y * y;
            double limit = h * h;
            // Far from the limit, and from where squares lose bits, doubles are sure enough.
            if (limit > 1.0E-200) {
                if (square < limit * 0.999999999999) {
                    return false;
                }
                if (square > limit * 1.000000000001) {
                    return true;
                }
            }
            empty();
            addSquare(x, false);
            addSquare(y, false);
            addSquare(h, true);
            carry();
            return !isBelowZero() && topDigit() >= 0;
        }

        /** The sum, rounded once. */
        double nearest() {
            carry();
            boolean negative = isBelowZero();
            if (negative) {
                for (int i = low; i <= high && i < DIGITS; i++) {
                    digits[i] = -digits[i];
                }
                carry();
            }
            int top = topDigit();
            if (top < 0) {
                return 0.0;
            }
            int first = 32 * top + 63 - Long.numberOfLeadingZeros(digits[top]);
            int last = Math.max(first - 52, BELOW - 1074);
            long kept = bitsFrom(last);
            if (bitAt(last - 1) && ((kept & 1L) != 0L || hasBitsBelow(last - 1))) {
                kept++;
            }
            double size = (double) kept * numbers.power(last - BELOW);
            return negative ? 0.0 - size : size;
        }

        /** The digits from a bit on, as a whole number; it has at most 53 bits. */
        private long bitsFrom(int bit) {
            int i = bit >> 5;
            int shift = bit & 31;
            if (i < 0 || i + 2 >= DIGITS) {
                return 0L;
            }
            long found = (digits[i] >>> shift) | (digits[i + 1] << (32 - shift));
            return shift == 0 ? found : found | (digits[i + 2] << (64 - shift));
        }

        private boolean bitAt(int bit) {
            int i = bit >> 5;
            return i >= 0 && i < DIGITS && ((digits[i] >>> (bit & 31)) & 1L) != 0L;
        }

        private boolean hasBitsBelow(int bit) {
            int i = bit >> 5;
            if (i < 0 || i >= DIGITS) {
                return false;
            }
            if ((digits[i] & ((1L << (bit & 31)) - 1L)) != 0L) {
                return true;
            }
            for (int k = low; k < i; k++) {
                if (digits[k] != 0L) {
                    return true;
                }
            }
            return false;
        }
    }

    /** The glasses with their numbers at the lines. */
    static final class Glasses {
        static final int GLASSES = 16;
        static final int LINES = 12;
        static final int LEAST = 5000001;
        static final int MOST = 40000000;
        static final int SHORTEST = 365;
        static final int LONGEST = 1014;
        private static final int AT_FIRST = 15000000;
        private static final int[] WAVES = {
            365, 405, 436, 486, 546, 588, 633, 656, 707, 768, 852, 1014
        };

        final int[] tenMillionths;
        /** The index behind each surface of the system that is led through now. */
        final double[] behind;

        Glasses() {
            tenMillionths = new int[GLASSES * LINES];
            Arrays.fill(tenMillionths, AT_FIRST);
            behind = new double[MOST_SURFACES];
        }

        /** Index of a glass, or of air, at a wavelength from SHORTEST to LONGEST. */
        double indexOf(int g, int w) {
            if (g < 0 || g >= GLASSES) {
                return 1.0;
            }
            int line = 0;
            while (line < LINES - 1 && WAVES[line] < w) {
                line++;
            }
            int there = tenMillionths[g * LINES + line];
            if (WAVES[line] == w || line == 0) {
                return there / 10000000.0;
            }
            int b = WAVES[line];
            int a = WAVES[line - 1];
            long n = tenMillionths[g * LINES + line - 1];
            long above = n * (b - w) + (long) there * (w - a);
            long below = 10000000L * (b - a);
            return (double) above / (double) below;
        }

        void fillBehind(Train train, int w) {
            for (int i = 0; i < train.size; i++) {
                behind[i] = indexOf(train.glass[i], w);
            }
        }
    }

    /** A system: its surfaces, and what is wanted of it, varied in it and borne by it. */
    static final class Train {
        int size;
        final double[] numbers;
        final int[] glass;
        final boolean[] mirror;

        int parts;
        final int[] partKind;
        final int[] partRay;
        final int[] partAcross;
        final int[] partWeight;
        final int[] partGoal;

        int variables;
        final int[] variableSlot;
        final double[] variableLow;
        final double[] variableHigh;
        final double[] variableStep;

        int tolerances;
        final int[] toleranceSlot;
        final double[] toleranceBy;

        Train() {
            size = 0;
            numbers = new double[MOST_SURFACES * SURFACE_NUMBERS];
            glass = new int[MOST_SURFACES];
            mirror = new boolean[MOST_SURFACES];
            parts = 0;
            partKind = new int[MOST_PARTS];
            partRay = new int[MOST_PARTS];
            partAcross = new int[MOST_PARTS];
            partWeight = new int[MOST_PARTS];
            partGoal = new int[MOST_PARTS];
            variables = 0;
            variableSlot = new int[MOST_VARIABLES];
            variableLow = new double[MOST_VARIABLES];
            variableHigh = new double[MOST_VARIABLES];
            variableStep = new double[MOST_VARIABLES];
            tolerances = 0;
            toleranceSlot = new int[MOST_TOLERANCES];
            toleranceBy = new double[MOST_TOLERANCES];
        }

        double numberOf(int i, int what) {
            return numbers[i * SURFACE_NUMBERS + what];
        }

        /** One new surface more. */
        void append() {
            if (size >= MOST_SURFACES) {
                return;
            }
            int first = size * SURFACE_NUMBERS;
            numbers[first + CURVE] = 0.0;
            numbers[first + CONIC] = 0.0;
            numbers[first + WAY] = 0.0;
            numbers[first + HEIGHT] = 10.0;
            glass[size] = AIR;
            mirror[size] = false;
            size++;
        }

        /** One surface more, like surface i of another system. */
        void appendCopy(Train from, int i) {
            if (size >= MOST_SURFACES || i < 0 || i >= from.size) {
                return;
            }
            System.arraycopy(from.numbers, i * SURFACE_NUMBERS, numbers, size * SURFACE_NUMBERS, SURFACE_NUMBERS);
            glass[size] = from.glass[i];
            mirror[size] = from.mirror[i];
            size++;
        }

        void become(Train from) {
            size = 0;
            for (int i = 0; i < from.size; i++) {
                appendCopy(from, i);
            }
            forgetWishes();
        }

        void forgetWishes() {
            parts = 0;
            variables = 0;
            tolerances = 0;
        }

        boolean isWithinBounds() {
            for (int k = 0; k < variables; k++) {
                double number = numbers[variableSlot[k]];
                if (number < variableLow[k] || number > variableHigh[k]) {
                    return false;
                }
            }
            return true;
        }

        boolean canTurn() {
            for (int i = 0; i < size; i++) {
                if (mirror[i]) {
                    return false;
                }
            }
            return size == 0 || (glass[size - 1] == AIR && numberOf(size - 1, WAY) == 0.0);
        }

        boolean isAlike(Train other, int i) {
            for (int what = CURVE; what <= HEIGHT; what++) {
                if (numberOf(i, what) != other.numberOf(i, what)) {
                    return false;
                }
            }
            return glass[i] == other.glass[i] && mirror[i] == other.mirror[i];
        }
    }

    /** A ray as it was put, ahead of any system. */
    static final class Beam {
        static final int X = 0;
        static final int Y = 1;
        static final int Z = 2;
        static final int K = 3;
        static final int L = 4;
        static final int M = 5;
        static final int NUMBERS = 6;

        final double[] numbers;
        int wavelength;

        Beam() {
            numbers = new double[NUMBERS];
            numbers[M] = 1.0;
            wavelength = 588;
        }

        boolean isUnit() {
            double k = numbers[K];
            double l = numbers[L];
            double m = numbers[M];
            double off = ((k * k + l * l) + m * m) - 1.0;
            // 2^-40
            return off <= 9.094947017729282E-13 && off >= -9.094947017729282E-13;
        }
    }

    /** A ray on its way through a system. */
    static final class Tracer {
        static final int KEPT = 7;
        private static final int GOES_ON = 0;
        private static final int MISSED = 1;
        private static final int OUTSIDE = 2;
        private static final int TOTAL = 3;
        private static final int LOST = 4;

        private final Numbers numbers;
        private final ExactSum sum;
        private final boolean keeps;
        final double[] kept;
        /** How many surfaces the latest ray went through. */
        int passed;

        double x;
        double y;
        private double z;
        private double k;
        private double l;
        private double m;
        private double path;
        private double n;
        private double s;
        private double u;
        private double v;
        private double p;
        /** I of the document. */
        private double slope;

        Tracer(Numbers theNumbers, ExactSum theSum, boolean keepsPlaces) {
            numbers = theNumbers;
            sum = theSum;
            keeps = keepsPlaces;
            kept = new double[keepsPlaces ? MOST_SURFACES * KEPT : 0];
            passed = 0;
        }

        void start(double atX, double atY, double atZ) {
            x = atX;
            y = atY;
            z = atZ;
        }

        void aim(Beam beam) {
            k = beam.numbers[Beam.K];
            l = beam.numbers[Beam.L];
            m = beam.numbers[Beam.M];
        }

        /** 0, or 100 times the outcome and the surface; the ray has been started and aimed. */
        int lead(Train train, double[] behind) {
            n = 1.0;
            path = 0.0;
            for (int i = 0; i < train.size && i < behind.length; i++) {
                if (i > 0) {
                    z = z - train.numberOf(i - 1, WAY);
                }
                double c = train.numberOf(i, CURVE);
                int outcome = meet(c, 1.0 + train.numberOf(i, CONIC));
                if (outcome == GOES_ON && sum.isBeyond(x, y, train.numberOf(i, HEIGHT))) {
                    outcome = OUTSIDE;
                }
                if (outcome == GOES_ON) {
                    outcome = raise(c);
                }
                if (outcome == GOES_ON) {
                    outcome = train.mirror[i] ? reflect() : refract(behind[i]);
                }
                if (outcome != GOES_ON) {
                    passed = i;
                    return 100 * outcome + i;
                }
                if (keeps) {
                    keep(i);
                }
            }
            passed = train.size;
            return 0;
        }

        private void keep(int i) {
            int first = i * KEPT;
            kept[first] = x;
            kept[first + 1] = y;
            kept[first + 2] = z;
            kept[first + 3] = k;
            kept[first + 4] = l;
            kept[first + 5] = m;
            kept[first + 6] = path;
        }

        /** Leads the ray on to the surface, up to p; conic is 1.0 + k. */
        private int meet(double c, double conic) {
            double a;
            double b;
            double cc;
            double d;
            if (isCalm()) {
                a = c * ((k * k + l * l) + conic * (m * m));
                b = m - c * ((x * k + y * l) + conic * (z * m));
                cc = c * ((x * x + y * y) + conic * (z * z)) - 2.0 * z;
                d = b * b - a * cc;
            } else {
                a = times(c, plus(plus(times(k, k), times(l, l)), times(conic, times(m, m))));
                b = less(m, times(c, plus(plus(times(x, k), times(y, l)), times(conic, times(z, m)))));
                cc = times(c, plus(plus(times(x, x), times(y, y)), times(conic, times(z, z))));
                cc = less(cc, times(2.0, z));
                d = less(times(b, b), times(a, cc));
            }
            if (!Numbers.isNumber(d)) {
                return LOST;
            }
            if (d < 0.0) {
                return MISSED;
            }
            double q = b < 0.0 ? b - numbers.root(d) : b + numbers.root(d);
            if (q == 0.0) {
                return MISSED;
            }
            s = cc / q;
            return Numbers.isNumber(s) ? move(c, conic) : LOST;
        }

        private int move(double c, double conic) {
            x = x + s * k;
            y = y + s * l;
            z = z + s * m;
            if (!Numbers.isNumber(x) || !Numbers.isNumber(y) || !Numbers.isNumber(z)) {
                return LOST;
            }
            double stretched = conic * z;
            // If this is infinite p is not finite, and it must not be multiplied by a c of 0.
            if (!Numbers.isNumber(stretched)) {
                return LOST;
            }
            p = 1.0 - c * stretched;
            if (!Numbers.isNumber(p)) {
                return LOST;
            }
            return p > 0.0 ? GOES_ON : MISSED;
        }

        /** Finds the way square to the surface, with the ray's own sense. */
        private int raise(double c) {
            path = path + n * s;
            u = 0.0 - c * x;
            v = 0.0 - c * y;
            double square = (u * u + v * v) + p * p;
            if (!Numbers.isNumber(path) || !Numbers.isNumber(square)) {
                return LOST;
            }
            double g = numbers.root(square);
            if (!(g > 0.0)) {
                return LOST;
            }
            u = u / g;
            v = v / g;
            p = p / g;
            slope = (k * u + l * v) + m * p;
            if (slope < 0.0) {
                // By -1.0, as a 0 has its sign turned too.
                u = u * -1.0;
                v = v * -1.0;
                p = p * -1.0;
                slope = slope * -1.0;
            }
            return GOES_ON;
        }

        private int reflect() {
            double e = 2.0 * slope;
            if (!Numbers.isNumber(e)) {
                return LOST;
            }
            k = k - e * u;
            l = l - e * v;
            m = m - e * p;
            return isAimed() ? GOES_ON : LOST;
        }

        private int refract(double n2) {
            double ratio = n / n2;
            double r = 1.0 - (ratio * ratio) * (1.0 - slope * slope);
            if (r < 0.0) {
                return TOTAL;
            }
            if (!Numbers.isNumber(r)) {
                return LOST;
            }
            double f = numbers.root(r) - ratio * slope;
            k = ratio * k + f * u;
            l = ratio * l + f * v;
            m = ratio * m + f * p;
            n = n2;
            return isAimed() ? GOES_ON : LOST;
        }

        private boolean isAimed() {
            return Numbers.isNumber(k) && Numbers.isNumber(l) && Numbers.isNumber(m);
        }

        /** Whether no step up to D can leave the doubles. */
        private boolean isCalm() {
            return isCalm(x) && isCalm(y) && isCalm(z) && isCalm(k) && isCalm(l) && isCalm(m);
        }

        private static boolean isCalm(double v) {
            return v >= -1.0E60 && v <= 1.0E60;
        }

        // What is not finite once stays so in these three, as infinity: D is not finite then.

        private static double times(double a, double b) {
            return Numbers.isNumber(a) && Numbers.isNumber(b) ? a * b : Numbers.infinite();
        }

        private static double plus(double a, double b) {
            return Numbers.isNumber(a) && Numbers.isNumber(b) ? a + b : Numbers.infinite();
        }

        private static double less(double a, double b) {
            return Numbers.isNumber(a) && Numbers.isNumber(b) ? a - b : Numbers.infinite();
        }
    }

    /** The paraxial rows of a system. */
    static final class Rows {
        static final int KEPT = 3;

        private final Glasses glasses;
        final double[] kept;
        int size;
        private double lastY;
        private double lastU;
        /** What find() found. */
        double found;

        Rows(Glasses theGlasses) {
            glasses = theGlasses;
            kept = new double[MOST_SURFACES * KEPT];
            size = 0;
        }

        /** No number here outgrows 10^10 to the 16th: none is infinite. */
        void fill(Train train, int w) {
            double y = 1.0;
            double u = 0.0;
            double n = 1.0;
            for (int i = 0; i < train.size; i++) {
                double n2;
                if (train.mirror[i]) {
                    n2 = 0.0 - n;
                } else {
                    double index = glasses.indexOf(train.glass[i], w);
                    n2 = n < 0.0 ? 0.0 - index : index;
                }
                if (i > 0) {
                    y = y + train.numberOf(i - 1, WAY) * u;
                }
                u = (n * u - y * (train.numberOf(i, CURVE) * (n2 - n))) / n2;
                n = n2;
                kept[i * KEPT] = y;
                kept[i * KEPT + 1] = u;
                kept[i * KEPT + 2] = n;
            }
            size = train.size;
            lastY = y;
            lastU = u;
        }

        /** Whether FOCAL or BACK is there. */
        boolean find(int what) {
            if (lastU == 0.0) {
                return false;
            }
            found = 0.0 - (what == FOCAL ? 1.0 : lastY) / lastU;
            return Numbers.isNumber(found);
        }
    }

    /** A bundle of rays, what it does at the last surface and where it is cut. */
    static final class Bundle {
        private final Glasses glasses;
        private final Tracer tracer;
        private final Numbers numbers;
        private final ExactSum sum;
        private final double[] placesX;
        private final double[] placesY;
        final int[] cuts;
        int all;
        int passed;
        double centreX;
        double centreY;
        double spread;
        double greatest;

        Bundle(Glasses theGlasses, Tracer theTracer, Numbers theNumbers, ExactSum theSum) {
            glasses = theGlasses;
            tracer = theTracer;
            numbers = theNumbers;
            sum = theSum;
            placesX = new double[MOST_ACROSS * MOST_ACROSS];
            placesY = new double[MOST_ACROSS * MOST_ACROSS];
            cuts = new int[MOST_SURFACES];
            all = 0;
            passed = 0;
        }

        /** How many pass of a bundle of n; the system has surfaces, the ray is unit, n is 1 .. 16. */
        int shine(Train train, Beam beam, int n) {
            glasses.fillBehind(train, beam.wavelength);
            Arrays.fill(cuts, 0);
            all = 0;
            passed = 0;
            double h = train.numberOf(0, HEIGHT);
            for (int i = 0; i < n; i++) {
                double x = h * ((double) (2 * i + 1 - n) / (double) n);
                for (int j = 0; j < n; j++) {
                    double y = h * ((double) (2 * j + 1 - n) / (double) n);
                    if (!sum.isBeyond(x, y, h)) {
                        tracer.start(x, y, 0.0);
                        tracer.aim(beam);
                        note(tracer.lead(train, glasses.behind));
                    }
                }
            }
            if (passed > 0) {
                findCentre();
                findSpread();
            }
            return passed;
        }

        private void note(int outcome) {
            all++;
            if (outcome == 0 && passed < placesX.length) {
                placesX[passed] = tracer.x;
                placesY[passed] = tracer.y;
                passed++;
            }
            int surface = outcome % 100;
            if (outcome > 0 && surface < MOST_SURFACES) {
                cuts[surface]++;
            }
        }

        private void findCentre() {
            sum.empty();
            for (int i = 0; i < passed; i++) {
                sum.add(placesX[i]);
            }
            centreX = sum.nearest() / (double) passed;
            sum.empty();
            for (int i = 0; i < passed; i++) {
                sum.add(placesY[i]);
            }
            centreY = sum.nearest() / (double) passed;
        }

        private void findSpread() {
            sum.empty();
            for (int i = 0; i < passed; i++) {
                sum.addSquare(placesX[i] - centreX, false);
                sum.addSquare(placesY[i] - centreY, false);
            }
            spread = numbers.root(sum.nearest() / (double) passed);
        }

        /** Rounding keeps the order, so the greatest of the rounded is the greatest, rounded. */
        void findGreatest() {
            double most = 0.0;
            for (int i = 0; i < passed; i++) {
                sum.empty();
                sum.addSquare(placesX[i] - centreX, false);
                sum.addSquare(placesY[i] - centreY, false);
                double square = sum.nearest();
                if (square > most) {
                    most = square;
                }
            }
            greatest = numbers.root(most);
        }
    }

    /** Merits, and what is sought with them. */
    static final class Judge {
        private final Beam[] beams;
        private final Rows rows;
        private final Bundle bundle;
        /** The merit that stands now: of the system that is improved, or of the worst way. */
        double now;

        Judge(Beam[] theBeams, Rows theRows, Bundle theBundle) {
            beams = theBeams;
            rows = theRows;
            bundle = theBundle;
            now = 0.0;
        }

        /** The merit of a system with surfaces. */
        double value(Train train) {
            double merit = 0.0;
            for (int k = 0; k < train.parts; k++) {
                Beam beam = beams[train.partRay[k]];
                int kind = train.partKind[k];
                double v;
                if (kind == SPREAD) {
                    if (!beam.isUnit() || bundle.shine(train, beam, train.partAcross[k]) == 0) {
                        return Numbers.infinite();
                    }
                    v = bundle.spread;
                } else {
                    rows.fill(train, beam.wavelength);
                    if (!rows.find(kind)) {
                        return Numbers.infinite();
                    }
                    v = rows.found;
                }
                double off = v - (double) train.partGoal[k];
                double square = off * off;
                // A weight of 0 must not meet an infinite square: that is no number, so not finite.
                if (!Numbers.isNumber(square)) {
                    return Numbers.infinite();
                }
                merit = merit + (double) train.partWeight[k] * square;
                if (!Numbers.isNumber(merit)) {
                    return Numbers.infinite();
                }
            }
            return merit;
        }

        /** One round of improving, from the merit now: how many numbers were moved. */
        int improveOnce(Train train) {
            int moved = 0;
            for (int k = 0; k < train.variables; k++) {
                int slot = train.variableSlot[k];
                double number = train.numbers[slot];
                double step = train.variableStep[k];
                boolean stays = false;
                for (int side = 0; side < 2 && !stays; side++) {
                    double tried = side == 0 ? number + step : number - step;
                    if (tried >= train.variableLow[k] && tried <= train.variableHigh[k]) {
                        train.numbers[slot] = tried;
                        double merit = value(train);
                        if (merit < now) {
                            now = merit;
                            stays = true;
                            moved++;
                        } else {
                            train.numbers[slot] = number;
                        }
                    }
                }
                if (!stays) {
                    train.variableStep[k] = step * 0.5;
                }
            }
            return moved;
        }

        /** The number of the worst way, with its merit in now; safe keeps the numbers meanwhile. */
        int worstWay(Train train, Train safe) {
            System.arraycopy(train.numbers, 0, safe.numbers, 0, train.numbers.length);
            int ways = 1 << train.tolerances;
            int worstOne = 0;
            for (int way = 0; way < ways; way++) {
                for (int k = 0; k < train.tolerances; k++) {
                    int slot = train.toleranceSlot[k];
                    double by = train.toleranceBy[k];
                    boolean less = (way & (1 << k)) != 0;
                    train.numbers[slot] = less ? train.numbers[slot] - by : train.numbers[slot] + by;
                }
                double merit = value(train);
                System.arraycopy(safe.numbers, 0, train.numbers, 0, train.numbers.length);
                if (way == 0 || merit > now) {
                    now = merit;
                    worstOne = way;
                }
            }
            return worstOne;
        }

        /** Whether a number was found at which BACK less goal turns its sign; it is put then. */
        boolean halve(Train train, int slot, double from, double upTo, int w, double goal) {
            double low = from;
            double high = upTo;
            if (!hasBack(train, slot, high, w)) {
                return false;
            }
            double atHigh = rows.found - goal;
            if (!hasBack(train, slot, low, w)) {
                return false;
            }
            double atLow = rows.found - goal;
            boolean turns = (atLow <= 0.0 && atHigh >= 0.0) || (atLow >= 0.0 && atHigh <= 0.0);
            if (!turns) {
                return false;
            }
            for (int k = 0; k < 60; k++) {
                double middle = low + (high - low) * 0.5;
                if (!hasBack(train, slot, middle, w)) {
                    return false;
                }
                if ((rows.found - goal > 0.0) == (atLow > 0.0)) {
                    low = middle;
                } else {
                    high = middle;
                }
            }
            train.numbers[slot] = low + (high - low) * 0.5;
            return true;
        }

        private boolean hasBack(Train train, int slot, double number, int w) {
            train.numbers[slot] = number;
            rows.fill(train, w);
            return rows.find(BACK);
        }
    }
}
