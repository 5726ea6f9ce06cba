import java.util.Random;

/**
 * Rays that no call can make, with numbers up to the greatest doubles, straight through LensBench's own tracer:
 * its guards against NaN must answer what the document's steps come to.
 */
public final class GreatNumbersTest {
    private static final Random RANDOM = new Random(31);

    private static double any(int most) {
        switch (RANDOM.nextInt(6)) {
            case 0: return 0.0;
            case 1: return RANDOM.nextGaussian();
            case 2: return -Math.pow(10, -RANDOM.nextInt(300));
            default: return (RANDOM.nextBoolean() ? 1 : -1) * Math.pow(10, RANDOM.nextDouble() * most);
        }
    }

    public static void main(String[] args) {
        LensBench.Numbers numbers = new LensBench.Numbers();
        LensBench.Tracer tracer = new LensBench.Tracer(numbers, new LensBench.ExactSum(numbers), true);
        double[] behind = new double[16];
        java.util.Arrays.fill(behind, 1.5);
        int[] outcomes = new int[5];
        int wrong = 0;
        for (int run = 0; run < 300000; run++) {
            LensBench.Train train = new LensBench.Train();
            RefBench ref = new RefBench();
            RefBench.Sys system = new RefBench.Sys();
            for (int i = 0; i < 2; i++) {
                RefBench.Surface f = new RefBench.Surface();
                f.a = new double[] {RANDOM.nextInt(4) == 0 ? 0 : RANDOM.nextInt(3) == 0 ? any(4) : RANDOM.nextGaussian() * 0.1,
                    RANDOM.nextInt(3) == 0 ? -1 : RANDOM.nextInt(21) - 10, RANDOM.nextGaussian() * 10, 1000};
                f.glass = 0;
                f.mirror = RANDOM.nextInt(3) == 0;
                system.surfaces.add(f);
                train.append();
                System.arraycopy(f.a, 0, train.numbers, 4 * i, 4);
                train.mirror[i] = f.mirror;
            }
            int most = RANDOM.nextBoolean() ? 308 : 90;
            boolean axis = RANDOM.nextBoolean();
            double[] start = {axis ? 0 : any(most), axis ? RANDOM.nextInt(3) : any(most), any(most),
                axis ? 0 : any(most), axis ? 0 : any(most), axis && RANDOM.nextBoolean() ? 1 : any(most)};
            LensBench.Beam beam = new LensBench.Beam();
            System.arraycopy(start, 0, beam.numbers, 0, 6);
            tracer.start(start[0], start[1], start[2]);
            tracer.aim(beam);
            int got = tracer.lead(train, behind);
            RefBench.Traced due = ref.through(system, start, 588);
            outcomes[due.outcome]++;
            boolean same = got == due.code() && tracer.passed == due.at.size();
            for (int i = 0; same && i < due.at.size(); i++) {
                for (int what = 0; what < 7; what++) {
                    same &= numbers.toBits(tracer.kept[7 * i + what]) == Double.doubleToRawLongBits(due.at.get(i)[what]);
                }
            }
            if (!same && wrong++ < 10) {
                System.out.println("run " + run + ": answered " + got + ", due is " + due.code() + ", from "
                    + java.util.Arrays.toString(start) + ", " + java.util.Arrays.toString(train.numbers));
            }
        }
        System.out.println("GreatNumbersTest: outcomes " + java.util.Arrays.toString(outcomes) + (wrong == 0 ? " as due" : ", wrong " + wrong));
        if (wrong != 0) {
            System.exit(1);
        }
    }
}
