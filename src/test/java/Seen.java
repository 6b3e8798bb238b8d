import java.util.Arrays;

/** Answers of many calls at once, to see whether anything changed. */
final class Seen {
    private final Watch original;
    private Watch asked;
    private final StringBuilder seen = new StringBuilder();

    private Seen(Watch original) {
        this.original = original;
        asked = original.twin();
    }

    static int[] clock(Watch x, int of, int k) {
        return row(x, 4, "clock", of, k);
    }

    static int[] event(Watch x, int e) {
        return row(x, 8, "eventOf", e);
    }

    static int[] cell(Watch x, int c) {
        return row(x, 8, "cell", c);
    }

    static int[] shared(Watch x, int c) {
        return row(x, 4, "shared", c);
    }

    static int[] races(Watch x, int c) {
        return row(x, 4, "races", c);
    }

    /** RACE k as earlier, later, KIND. */
    static int[] race(Watch x, int c, int k) {
        return row(x, 3, "race", c, k);
    }

    /** The answers of a call whose last argument goes from 0 on. */
    private static int[] row(Watch x, int length, String name, int... first) {
        int[] with = Arrays.copyOf(first, first.length + 1);
        int[] answers = new int[length];
        for (int i = 0; i < length; i++) {
            with[first.length] = i;
            answers[i] = x.call(name, with);
        }
        return answers;
    }

    /** All of section 1 that can be asked for. The object itself is not asked, but twins of it. */
    static String sectionOne(Watch x) {
        Seen seen = new Seen(x);
        seen.lookAtSectionOne();
        return seen.seen.toString();
    }

    /** All there is: section 1, the FAULT, THE JOURNAL, what THE TEXT would do, and what the IMAGES keep. */
    static String all(Watch x) {
        Seen seen = new Seen(x);
        seen.lookAtSectionOne();
        seen.look("fault");
        seen.look("told", 6);
        int entries = seen.look("told", 7);
        for (int i = 0; i <= entries; i++) {
            seen.look("journal", i, 0);
            seen.look("journal", i, 1);
        }
        seen.lookBehind("run");
        seen.lookBehind("goBack", 0);
        seen.lookBehind("goBack", 1);
        return seen.seen.toString();
    }

    private void lookAtSectionOne() {
        for (int what : new int[] {1, 2, 3, 4, 5, 8}) {
            look("told", what);
        }
        for (int of = 0; of < 3; of++) {
            for (int k = 0; k < 4 - of; k++) {
                lookAlong(4, "clock", of, k);
            }
        }
        for (int lock = 0; lock < 3; lock++) {
            look("holder", lock);
        }
        int events = look("told", 0);
        for (int e = 0; e <= events; e++) {
            lookAlong(8, "eventOf", e);
        }
        for (int c = 0; c < 4; c++) {
            lookAlong(8, "cell", c);
            lookAlong(4, "shared", c);
            lookAlong(3, "races", c);
            look("guard", c);
            int races = look("races", c, 3);
            for (int k = 0; k <= races; k++) {
                lookAlong(3, "race", c, k);
            }
        }
    }

    private int look(String name, int... with) {
        leaveCalls(1);
        int answer = asked.call(name, with);
        seen.append(name).append(Arrays.toString(with)).append(' ').append(answer).append('\n');
        return answer;
    }

    private void lookAlong(int length, String name, int... first) {
        leaveCalls(length);
        seen.append(name).append(Arrays.toString(first)).append(' ').append(Arrays.toString(row(asked, length, name, first))).append('\n');
    }

    /** What a call would answer, and section 1 behind it. */
    private void lookBehind(String name, int... with) {
        Watch further = original.twin();
        seen.append(name).append(Arrays.toString(with)).append(' ').append(further.call(name, with)).append('\n');
        seen.append(sectionOne(further));
    }

    private void leaveCalls(int more) {
        if (asked.left() < more) {
            asked = original.twin();
        }
    }
}
