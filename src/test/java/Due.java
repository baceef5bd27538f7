/** Counts and prints the answers that are not as due, under the sentence of the document that they are about. */
final class Due {
    private final String what;
    private String sentence = "";
    private int sentences;
    private int askedAboutIt;
    private int wrong;
    private int asked;

    Due(String what) {
        this.what = what;
    }

    /** All that is asked until the next call of this is about one sentence. */
    void about(String nextSentence) {
        checkThatSentenceWasAsked();
        sentence = nextSentence;
        sentences++;
        askedAboutIt = 0;
    }

    void is(String call, int want, int got) {
        asked++;
        askedAboutIt++;
        if (got != want) {
            wrong++;
            System.out.println(what + ": " + (sentence.isEmpty() ? "" : "\"" + sentence + "\": ")
                    + call + " answered " + got + ", due is " + want);
        }
    }

    void yes(String call, boolean got) {
        is(call, 1, got ? 1 : 0);
    }

    void no(String call, boolean got) {
        is(call, 0, got ? 1 : 0);
    }

    /** What holds() answers for each of the five nodes. */
    void holds(String when, VersionRing ring, int version, int... want) {
        for (int node = 0; node < 5; node++) {
            is(when + ": holds(" + node + ", " + version + ")", want[node], ring.holds(node, version));
        }
    }

    /** The five counts of a version's clock. */
    void clock(String when, VersionRing ring, int version, int... want) {
        for (int node = 0; node < 5; node++) {
            is(when + ": version(" + version + ", " + node + ")", want[node], ring.version(version, node));
        }
    }

    /** The five counts of a context's clock. */
    void knows(String when, VersionRing ring, int context, int... want) {
        for (int node = 0; node < 5; node++) {
            is(when + ": context(" + context + ", " + node + ")", want[node], ring.context(context, node));
        }
    }

    int wrongOnes() {
        return wrong;
    }

    void end() {
        checkThatSentenceWasAsked();
        System.out.println(what + ": " + (sentences == 0 ? "" : sentences + " sentences, ")
                + asked + " answers, " + wrong + " not as due");
        if (wrong != 0 || asked == 0) {
            System.exit(1);
        }
    }

    /** A sentence without an answer would look as if it held. */
    private void checkThatSentenceWasAsked() {
        if (sentences > 0 && askedAboutIt == 0) {
            wrong++;
            System.out.println(what + ": nothing was asked about \"" + sentence + "\"");
        }
    }
}
