import java.util.ArrayList;
import java.util.List;
import java.util.Random;

/** Promises 1 to 22 over many runs of calls: RaceWatch must answer as the Model does. */
public final class ModelTest {
    private static final int RUNS = 1500;
    /** A turn that feeds no text makes fewer calls than that. */
    private static final int CALLS_OF_A_TURN = 8;
    private static final int[] FAR = {-2147483648, -1000000001, -1, 160, 1000000, 2147483646, 2147483647};

    private final Random random;
    private final Watch x = new Watch();
    private final Model model = new Model();
    private final List<String> calls = new ArrayList<>();
    private boolean wrong = false;

    private ModelTest(int seed) {
        random = new Random(seed);
    }

    public static void main(String[] args) {
        int runs = args.length > 0 ? Integer.parseInt(args[0]) : RUNS;
        int first = args.length > 1 ? Integer.parseInt(args[1]) : 0;
        long asked = 0;
        for (int seed = first; seed < first + runs; seed++) {
            ModelTest run = new ModelTest(seed);
            if (seed % 4 == 0) {
                run.fillUp();
            }
            run.go(20 + seed % 7 * 70);
            asked += run.calls.size();
            if (run.wrong) {
                System.out.println("ModelTest: run " + seed + ", the last call is wrong:");
                run.calls.forEach(System.out::println);
                System.exit(1);
            }
        }
        System.out.println("ModelTest: " + runs + " runs, " + asked + " answers, 0 wrong");
    }

    /** So that what comes behind is soon FULL. */
    private void fillUp() {
        for (int thread = 1; thread < 4; thread++) {
            same("event(0, 6, " + thread + ")", x.event(0, 6, thread), model.event(0, 6, thread));
        }
        int most = 130 + random.nextInt(30);
        for (int e = 3; e < most; e++) {
            int thread = random.nextInt(4);
            int sort = random.nextInt(8) == 0 ? 4 + random.nextInt(2) : random.nextInt(2);
            int with = random.nextInt(2);
            same("event(" + thread + ", " + sort + ", " + with + ")", x.event(thread, sort, with), model.event(thread, sort, with));
        }
    }

    private void go(int more) {
        int most = calls.size() + more;
        int style = random.nextInt(4);
        while (calls.size() < most && x.left() >= CALLS_OF_A_TURN && !wrong) {
            int lot = random.nextInt(100);
            if (lot < 25) {
                eventOfStyle(style);
            } else if (lot < 31) {
                feedAndRun();
            } else if (lot < 35) {
                change();
            } else {
                ask();
            }
        }
    }

    private void same(String call, int got, int want) {
        calls.add(call + " answered " + got + (got == want ? "" : ", due is " + want));
        wrong |= got != want;
    }

    /** A number of 0 .. n - 1, now and then one out of its bounds. */
    private int about(int n) {
        int lot = random.nextInt(60);
        return lot == 0 ? -1 : lot == 1 ? n : lot == 2 ? FAR[random.nextInt(FAR.length)] : random.nextInt(Math.max(n, 1));
    }

    private void eventOfStyle(int style) {
        int sort = about(8);
        if (style == 0) {
            sort = random.nextInt(3) > 0 ? random.nextInt(2) : sort;
        } else if (style == 1) {
            sort = random.nextInt(3) > 0 ? 2 + random.nextInt(2) : sort;
        }
        if (model.told(1) == 1 && random.nextInt(2) == 0) {
            sort = 6;
        }
        if (sort == 7 && random.nextInt(3) > 0) {
            sort = random.nextInt(2);
        }
        int thread = about(4);
        int with = sort == 2 || sort == 3 ? about(3) : sort == 4 || sort == 5 ? about(2) : about(style == 3 ? 2 : 4);
        same("event(" + thread + ", " + sort + ", " + with + ")", x.event(thread, sort, with), model.event(thread, sort, with));
    }

    private void change() {
        switch (random.nextInt(12)) {
            case 0 -> {
                if (random.nextInt(3) == 0) {
                    same("anew()", x.anew(), model.anew());
                }
            }
            case 1, 2, 3 -> {
                int n = about(41);
                int seed = about(1000000);
                same("drift(" + n + ", " + seed + ")", x.drift(n, seed), model.drift(n, seed));
            }
            case 4, 5, 6, 7 -> jump();
            case 8, 9 -> {
                int i = about(2);
                same("keep(" + i + ")", x.keep(i), model.keep(i));
            }
            default -> {
                int i = about(2);
                same("goBack(" + i + ")", x.goBack(i), model.goBack(i));
            }
        }
    }

    private void jump() {
        int thread = about(4);
        int own = Math.max(x.clock(0, thread, thread), 0);
        int v = switch (random.nextInt(6)) {
            case 0 -> 2147483647 - own;
            case 1 -> 2147483647 - own - random.nextInt(4);
            case 2 -> FAR[random.nextInt(FAR.length)];
            default -> random.nextInt(10);
        };
        same("jump(" + thread + ", " + v + ")", x.jump(thread, v), model.jump(thread, v));
    }

    private void feedAndRun() {
        StringBuilder text = new StringBuilder();
        items(text, random.nextInt(4), random.nextInt(30) == 0 ? 60 : 6);
        spoil(text);
        int letters = Math.min(text.length(), 245);
        if (letters + CALLS_OF_A_TURN > x.left()) {
            return;
        }
        for (int i = 0; i < letters; i++) {
            int letter = text.charAt(i);
            int got = x.feed(letter);
            int want = model.feed(letter);
            if (got != want || i % 50 == 49) {
                same("feed(" + letter + ")", got, want);
            }
        }
        if (random.nextInt(15) == 0) {
            int letter = about(256);
            same("feed(" + letter + ")", x.feed(letter), model.feed(letter));
        }
        same("run() of " + text, x.run(), model.run());
        same("fault()", x.fault(), model.fault());
        same("told(0)", x.told(0), model.told(0));
    }

    private void items(StringBuilder text, int depth, int most) {
        int n = random.nextInt(most);
        for (int i = 0; i < n && text.length() < 240; i++) {
            int lot = random.nextInt(12);
            if (lot < 5 || depth == 0) {
                text.append("rrwwpgfj".charAt(random.nextInt(lot == 0 ? 8 : 6))).append(random.nextInt(random.nextInt(3) + 1)).append(';');
            } else {
                text.append(lot < 9 ? 'l' : 't').append(random.nextInt(3)).append('(');
                items(text, depth - 1, 4);
                text.append(')');
            }
        }
    }

    private void spoil(StringBuilder text) {
        int times = random.nextInt(3);
        for (int i = 0; i < times && text.length() > 0; i++) {
            int at = random.nextInt(text.length());
            switch (random.nextInt(5)) {
                case 0 -> text.deleteCharAt(at);
                case 1 -> text.setCharAt(at, "rwpgfjtl();0123456789 x".charAt(random.nextInt(23)));
                case 2 -> text.insert(at, "rwpgfjtl();0123456789 x".charAt(random.nextInt(23)));
                case 3 -> text.insert(at, ' ');
                default -> text.setLength(random.nextInt(6) == 0 ? at : text.length());
            }
        }
    }

    private void ask() {
        int c = about(4);
        int t = about(4);
        int e = about(model.told(0));
        switch (random.nextInt(13)) {
            case 0 -> {
                int what = about(9);
                same("told(" + what + ")", x.told(what), model.told(what));
            }
            case 1 -> {
                int of = about(3);
                same("clock(" + of + ", " + c + ", " + t + ")", x.clock(of, c, t), model.clock(of, c, t));
            }
            case 2 -> {
                int what = about(8);
                same("eventOf(" + e + ", " + what + ")", x.eventOf(e, what), model.eventOf(e, what));
            }
            case 3 -> same("holder(" + c + ")", x.holder(c), model.holder(c));
            case 4 -> {
                int i = about(26);
                int what = about(2);
                same("journal(" + i + ", " + what + ")", x.journal(i, what), model.journal(i, what));
            }
            case 5 -> {
                int f = about(model.told(0));
                same("ahead(" + e + ", " + f + ")", x.ahead(e, f), model.ahead(e, f));
            }
            case 6 -> same("races(" + c + ", " + t + ")", x.races(c, t), model.races(c, t));
            case 7 -> {
                int k = about(Math.max(1, x.races(c, 3)) + 1);
                int what = about(3);
                same("race(" + c + ", " + k + ", " + what + ")", x.race(c, k, what), model.race(c, k, what));
            }
            case 8 -> {
                int what = about(8);
                same("cell(" + c + ", " + what + ")", x.cell(c, what), model.cell(c, what));
            }
            case 9 -> same("shared(" + c + ", " + t + ")", x.shared(c, t), model.shared(c, t));
            case 10 -> {
                boolean write = random.nextBoolean();
                same("would(" + t + ", " + c + ", " + write + ")", x.would(t, c, write), model.would(t, c, write));
            }
            case 11 -> same("guard(" + c + ")", x.guard(c), model.guard(c));
            default -> same("fault()", x.fault(), model.fault());
        }
    }
}
