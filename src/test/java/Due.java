/** Counts and prints the answers that are not as due. */
final class Due {
    private final String what;
    private int wrong;
    private int asked;

    Due(String what) {
        this.what = what;
    }

    void is(String call, int want, int got) {
        asked++;
        if (got != want) {
            wrong++;
            System.out.println(what + ": " + call + " answered " + got + ", due is " + want);
        }
    }

    void yes(String call, boolean got) {
        is(call, 1, got ? 1 : 0);
    }

    void no(String call, boolean got) {
        is(call, 0, got ? 1 : 0);
    }

    int wrongOnes() {
        return wrong;
    }

    void end() {
        System.out.println(what + ": " + asked + " answers, " + wrong + " not as due");
        if (wrong != 0 || asked == 0) {
            System.exit(1);
        }
    }
}
