import java.util.ArrayList;
import java.util.Arrays;
import java.util.List;

/** Answers of many calls at once, to see whether anything changed. */
final class Seen {
    private Seen() {
    }

    static int[] clock(RaceWatch x, int of, int k) {
        int[] numbers = new int[4];
        for (int t = 0; t < 4; t++) {
            numbers[t] = x.clock(of, k, t);
        }
        return numbers;
    }

    static int[] event(RaceWatch x, int e) {
        int[] parts = new int[8];
        for (int what = 0; what < 8; what++) {
            parts[what] = x.eventOf(e, what);
        }
        return parts;
    }

    static int[] cell(RaceWatch x, int c) {
        int[] parts = new int[8];
        for (int what = 0; what < 8; what++) {
            parts[what] = x.cell(c, what);
        }
        return parts;
    }

    static int[] shared(RaceWatch x, int c) {
        int[] numbers = new int[4];
        for (int t = 0; t < 4; t++) {
            numbers[t] = x.shared(c, t);
        }
        return numbers;
    }

    static int[] races(RaceWatch x, int c) {
        int[] counts = new int[4];
        for (int kind = 0; kind < 4; kind++) {
            counts[kind] = x.races(c, kind);
        }
        return counts;
    }

    /** RACE k as earlier, later, KIND. */
    static int[] race(RaceWatch x, int c, int k) {
        return new int[] {x.race(c, k, 0), x.race(c, k, 1), x.race(c, k, 2)};
    }

    /** All of section 1 that can be asked for. */
    static String sectionOne(RaceWatch x) {
        List<String> all = new ArrayList<>();
        for (int what = 0; what <= 5; what++) {
            all.add("" + x.told(what));
        }
        all.add("" + x.told(8));
        for (int of = 0; of < 3; of++) {
            for (int k = 0; k < 4 - of; k++) {
                all.add(Arrays.toString(clock(x, of, k)));
            }
        }
        for (int lock = 0; lock < 3; lock++) {
            all.add("" + x.holder(lock));
        }
        for (int e = 0; e < x.told(0); e++) {
            all.add(Arrays.toString(event(x, e)));
        }
        for (int c = 0; c < 4; c++) {
            all.add(Arrays.toString(cell(x, c)) + Arrays.toString(shared(x, c)) + x.guard(c));
            all.add(Arrays.toString(races(x, c)));
            for (int k = 0; k <= x.races(c, 3); k++) {
                all.add(Arrays.toString(race(x, c, k)));
            }
        }
        return all.toString();
    }

    /** All that can be asked for, THE TEXT and THE JOURNAL too. */
    static String all(RaceWatch x) {
        StringBuilder all = new StringBuilder(sectionOne(x));
        all.append(" text ").append(x.told(6)).append(" fault ").append(x.fault());
        for (int i = 0; i < x.told(7); i++) {
            all.append(" entry ").append(x.journal(i, 0)).append(' ').append(x.journal(i, 1));
        }
        return all.toString();
    }
}
