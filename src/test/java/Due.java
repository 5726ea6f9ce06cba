/** Counts answers and prints those that are not due, with the sentence of the document that asks for them. */
final class Due {
    private final String test;
    private int asked = 0;
    private int wrong = 0;
    private String sentence = "";

    Due(String test) {
        this.test = test;
    }

    /** What follows is asked by this sentence. */
    void by(String words) {
        sentence = words;
    }

    void is(String call, long got, long want) {
        asked++;
        if (got != want && wrong++ < 40) {
            System.out.println(sentence + ": " + call + " answered " + got + ", due is " + want
                + " (as numbers " + Double.longBitsToDouble(got) + ", " + Double.longBitsToDouble(want) + ")");
        }
    }

    void is(String call, boolean got, boolean want) {
        is(call, got ? 1L : 0L, want ? 1L : 0L);
    }

    void isNot(String call, long got, long refused) {
        asked++;
        if (got == refused && wrong++ < 40) {
            System.out.println(sentence + ": " + call + " answered " + got + ", but it is to be taken");
        }
    }

    void same(String call, long[] got, long[] want) {
        asked++;
        if (!java.util.Arrays.equals(got, want) && wrong++ < 40) {
            System.out.println(sentence + ": " + call + " changed what " + java.util.Arrays.mismatch(got, want) + " tells");
        }
    }

    void end() {
        System.out.println(wrong == 0 ? test + ": " + asked + " answers as due" : test + ": " + wrong + " of " + asked + " wrong");
        if (wrong != 0) {
            System.exit(1);
        }
    }
}
