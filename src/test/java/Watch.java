import java.util.ArrayList;
import java.util.List;

/**
 * A RaceWatch that writes down its calls. It refuses to make more of them than the 512 for which
 * the document promises anything, and a twin can be made by the same calls, so that much can be asked
 * of an object without using up its own.
 */
final class Watch {
    static final int MOST_CALLS = 512;

    private record Call(String name, int[] with) {
        int of(RaceWatch x) {
            return switch (name) {
                case "anew" -> x.anew();
                case "feed" -> x.feed(with[0]);
                case "run" -> x.run();
                case "fault" -> x.fault();
                case "event" -> x.event(with[0], with[1], with[2]);
                case "jump" -> x.jump(with[0], with[1]);
                case "drift" -> x.drift(with[0], with[1]);
                case "told" -> x.told(with[0]);
                case "clock" -> x.clock(with[0], with[1], with[2]);
                case "eventOf" -> x.eventOf(with[0], with[1]);
                case "holder" -> x.holder(with[0]);
                case "journal" -> x.journal(with[0], with[1]);
                case "ahead" -> x.ahead(with[0], with[1]);
                case "races" -> x.races(with[0], with[1]);
                case "race" -> x.race(with[0], with[1], with[2]);
                case "cell" -> x.cell(with[0], with[1]);
                case "shared" -> x.shared(with[0], with[1]);
                case "would" -> x.would(with[0], with[1], with[2] != 0);
                case "guard" -> x.guard(with[0]);
                case "keep" -> x.keep(with[0]);
                case "goBack" -> x.goBack(with[0]);
                default -> throw new IllegalArgumentException(name);
            };
        }
    }

    private final RaceWatch watched = new RaceWatch();
    private final List<Call> calls = new ArrayList<>();

    int call(String name, int... with) {
        if (left() == 0) {
            throw new IllegalStateException("a test asks for more than " + MOST_CALLS + " calls of one object");
        }
        Call call = new Call(name, with.clone());
        calls.add(call);
        return call.of(watched);
    }

    /** How many calls the document still promises anything for. */
    int left() {
        return MOST_CALLS - calls.size();
    }

    /** Another one with the same calls behind it. */
    Watch twin() {
        Watch twin = new Watch();
        for (Call call : calls) {
            twin.calls.add(call);
            call.of(twin.watched);
        }
        return twin;
    }

    int anew() {
        return call("anew");
    }

    int feed(int letter) {
        return call("feed", letter);
    }

    int run() {
        return call("run");
    }

    int fault() {
        return call("fault");
    }

    int event(int thread, int sort, int with) {
        return call("event", thread, sort, with);
    }

    int jump(int thread, int v) {
        return call("jump", thread, v);
    }

    int drift(int n, int seed) {
        return call("drift", n, seed);
    }

    int told(int what) {
        return call("told", what);
    }

    int clock(int of, int k, int thread) {
        return call("clock", of, k, thread);
    }

    int eventOf(int e, int what) {
        return call("eventOf", e, what);
    }

    int holder(int lock) {
        return call("holder", lock);
    }

    int journal(int i, int what) {
        return call("journal", i, what);
    }

    int ahead(int e, int f) {
        return call("ahead", e, f);
    }

    int races(int cell, int kind) {
        return call("races", cell, kind);
    }

    int race(int cell, int k, int what) {
        return call("race", cell, k, what);
    }

    int cell(int cell, int what) {
        return call("cell", cell, what);
    }

    int shared(int cell, int thread) {
        return call("shared", cell, thread);
    }

    int would(int thread, int cell, boolean write) {
        return call("would", thread, cell, write ? 1 : 0);
    }

    int guard(int cell) {
        return call("guard", cell);
    }

    int keep(int i) {
        return call("keep", i);
    }

    int goBack(int i) {
        return call("goBack", i);
    }
}
