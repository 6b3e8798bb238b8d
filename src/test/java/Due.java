/** Compares answers with those that are due, and ends a test with exit code 1 if one was wrong. */
final class Due {
    private final String test;
    private String sentence = "";
    private int asked = 0;
    private int wrong = 0;

    Due(String test) {
        this.test = test;
    }

    /** The words of the document for which the next answers stand. */
    void sentence(String words) {
        sentence = " (\"" + words + "\")";
    }

    void is(String call, int got, int want) {
        asked++;
        if (got != want) {
            wrong++;
            System.out.println(test + ": " + call + " answered " + got + ", due is " + want + sentence);
        }
    }

    void yes(String what, boolean holds) {
        is(what, holds ? 1 : 0, 1);
    }

    /** Feeds a text and runs it. */
    int run(Watch x, String text) {
        for (int i = 0; i < text.length(); i++) {
            x.feed(text.charAt(i));
        }
        return x.run();
    }

    /** A text that is run, what it answers and where its fault is. */
    void runs(Watch x, String text, int want, int faultAt) {
        is("run of \"" + text + "\"", run(x, text), want);
        is("fault() of \"" + text + "\"", x.fault(), faultAt);
        is("told(6) behind \"" + text + "\"", x.told(6), 0);
    }

    /** Several answers of calls that differ in one argument. */
    void row(String calls, int[] got, int... want) {
        is(calls + ": how many", got.length, want.length);
        for (int i = 0; i < Math.min(got.length, want.length); i++) {
            is(calls + " number " + i, got[i], want[i]);
        }
    }

    void end() {
        System.out.println(test + ": " + asked + " answers, " + wrong + " wrong");
        if (wrong != 0) {
            System.exit(1);
        }
    }
}
