import java.util.ArrayList;
import java.util.List;

/**
 * What RaceWatch must answer, told once more in another way: only what came is kept, as a list,
 * and each answer is found by going through the whole list again. Races are found pair by pair,
 * texts are read by a method for each rule.
 */
final class Model {
    /** What came: an EVENT, or a jump (sort -1, with: how far). */
    record Came(int thread, int sort, int with) {
    }

    /** An EVENT with what it keeps. */
    record Event(int thread, int sort, int with, long[] clock, int locks) {
        boolean isAccess() {
            return sort <= 1;
        }
    }

    record Race(int earlier, int later, int kind) {
    }

    record Entry(int lock, int opened) {
    }

    /** All of section 1, found from what came. */
    static final class Found {
        final String[] states = {"GOES", "NEW", "NEW", "NEW"};
        final long[][][] clocks = {new long[4][4], new long[3][4], new long[2][4]};
        final int[] holders = {-1, -1, -1};
        final List<Event> events = new ArrayList<>();
        final int[][] lastWrite = {{-1, 0}, {-1, 0}, {-1, 0}, {-1, 0}};
        final int[][] lastRead = {{-1, 0}, {-1, 0}, {-1, 0}, {-1, 0}};
        final int[][] shared = new int[4][];
        final int[] promotions = new int[4];
        final int[][] first = {{-1, -1}, {-1, -1}, {-1, -1}, {-1, -1}};

        Found(List<Came> came) {
            for (int t = 0; t < 4; t++) {
                clocks[0][t][t] = 1;
            }
            for (Came c : came) {
                if (c.sort == -1) {
                    clocks[0][c.thread][c.thread] += c.with;
                } else {
                    add(c);
                }
            }
        }

        private void add(Came c) {
            long[] own = clocks[0][c.thread];
            long[] ahead = own.clone();
            boolean keepsBehind = false;
            switch (c.sort) {
                case 0 -> read(c, own);
                case 1 -> write(c, own);
                case 2 -> {
                    join(own, clocks[1][c.with]);
                    holders[c.with] = c.thread;
                    keepsBehind = true;
                }
                case 3 -> {
                    clocks[1][c.with] = own.clone();
                    step(c.thread);
                    holders[c.with] = -1;
                }
                case 4 -> {
                    join(clocks[2][c.with], own);
                    step(c.thread);
                }
                case 5 -> {
                    join(own, clocks[2][c.with]);
                    keepsBehind = true;
                }
                case 6 -> {
                    join(clocks[0][c.with], own);
                    states[c.with] = "GOES";
                    step(c.thread);
                }
                default -> {
                    join(own, clocks[0][c.with]);
                    states[c.with] = "DONE";
                    keepsBehind = true;
                }
            }
            events.add(new Event(c.thread, c.sort, c.with, keepsBehind ? own.clone() : ahead, locksOf(c.thread)));
        }

        private void step(int thread) {
            clocks[0][thread][thread] = Math.min(clocks[0][thread][thread] + 1, 2147483647L);
        }

        private static void join(long[] into, long[] other) {
            for (int t = 0; t < 4; t++) {
                into[t] = Math.max(into[t], other[t]);
            }
        }

        int locksOf(int thread) {
            int set = 0;
            for (int lock = 0; lock < 3; lock++) {
                set += holders[lock] == thread ? 1 << lock : 0;
            }
            return set;
        }

        private static boolean behind(int[] last, long[] clock) {
            return last[0] == -1 || clock[last[0]] >= last[1];
        }

        int kind(int cell, boolean write, long[] clock) {
            if (!behind(lastWrite[cell], clock)) {
                return write ? 0 : 1;
            }
            if (!write) {
                return -1;
            }
            for (int t = 0; shared[cell] != null && t < 4; t++) {
                if (!behind(new int[] {t, shared[cell][t]}, clock)) {
                    return 2;
                }
            }
            return behind(lastRead[cell], clock) ? -1 : 2;
        }

        private void look(Came c, boolean write, long[] clock) {
            int kind = kind(c.with, write, clock);
            if (kind >= 0 && first[c.with][0] == -1) {
                first[c.with] = new int[] {events.size(), kind};
            }
        }

        private void read(Came c, long[] clock) {
            look(c, false, clock);
            int own = (int) clock[c.thread];
            if (shared[c.with] != null) {
                shared[c.with][c.thread] = own;
            } else if (behind(lastRead[c.with], clock)) {
                lastRead[c.with] = new int[] {c.thread, own};
            } else {
                shared[c.with] = new int[4];
                shared[c.with][lastRead[c.with][0]] = lastRead[c.with][1];
                shared[c.with][c.thread] = own;
                lastRead[c.with] = new int[] {-1, 0};
                promotions[c.with]++;
            }
        }

        private void write(Came c, long[] clock) {
            look(c, true, clock);
            lastWrite[c.with] = new int[] {c.thread, (int) clock[c.thread]};
            lastRead[c.with] = new int[] {-1, 0};
            shared[c.with] = null;
        }

        boolean ahead(int e, int f) {
            int t = events.get(e).thread;
            return f > e && events.get(f).clock[t] >= events.get(e).clock[t];
        }

        List<Race> races(int cell) {
            List<Race> races = new ArrayList<>();
            for (int f = 0; f < events.size(); f++) {
                for (int e = 0; e < f; e++) {
                    Event a = events.get(e);
                    Event b = events.get(f);
                    boolean both = a.isAccess() && b.isAccess() && a.with == cell && b.with == cell && a.thread != b.thread;
                    if (both && a.sort + b.sort > 0 && !ahead(e, f)) {
                        races.add(new Race(e, f, a.sort + b.sort == 2 ? 0 : a.sort == 1 ? 1 : 2));
                    }
                }
            }
            return races;
        }
    }

    private List<Came> came = new ArrayList<>();
    private final List<List<Came>> images = new ArrayList<>();
    private StringBuilder text = new StringBuilder();
    private final List<Entry> entries = new ArrayList<>();
    private int faultAt = -1;
    private Found found;

    Model() {
        images.add(null);
        images.add(null);
        find();
    }

    private void find() {
        found = new Found(came);
    }

    private void come(int thread, int sort, int with) {
        came.add(new Came(thread, sort, with));
        find();
    }

    private int count() {
        return found.events.size();
    }

    private static boolean in(int i, int from, int to) {
        return i >= from && i <= to;
    }

    int anew() {
        int n = count();
        came = new ArrayList<>();
        find();
        return n;
    }

    int feed(int letter) {
        if (!in(letter, 0, 255)) {
            return RaceWatch.OUTSIDE;
        }
        if (text.length() == 240) {
            return RaceWatch.FULL;
        }
        text.append((char) letter);
        return text.length();
    }

    private static int last(int sort) {
        return sort == 2 || sort == 3 ? 2 : sort == 4 || sort == 5 ? 1 : 3;
    }

    private boolean not(int thread, int sort, int with) {
        boolean going = found.states[thread].equals("GOES");
        boolean can = switch (sort) {
            case 2 -> found.holders[with] == -1;
            case 3 -> found.holders[with] == thread;
            case 6 -> found.states[with].equals("NEW");
            case 7 -> found.states[with].equals("GOES") && found.locksOf(with) == 0;
            default -> true;
        };
        return !going || !can;
    }

    private boolean much(int thread, int sort) {
        return (sort == 3 || sort == 4 || sort == 6) && found.clocks[0][thread][thread] + 1 > 2147483647L;
    }

    int event(int thread, int sort, int with) {
        if (!in(thread, 0, 3)) {
            return RaceWatch.UNKNOWN;
        }
        if (!in(sort, 0, 7)) {
            return RaceWatch.OUTSIDE;
        }
        if (!in(with, 0, last(sort)) || sort >= 6 && with == thread) {
            return RaceWatch.UNKNOWN;
        }
        if (not(thread, sort, with)) {
            return RaceWatch.NOT;
        }
        if (count() >= 160) {
            return RaceWatch.FULL;
        }
        if (much(thread, sort)) {
            return RaceWatch.MUCH;
        }
        come(thread, sort, with);
        return count() - 1;
    }

    int jump(int thread, int v) {
        if (!in(thread, 0, 3)) {
            return RaceWatch.UNKNOWN;
        }
        if (v < 1) {
            return RaceWatch.OUTSIDE;
        }
        if (!found.states[thread].equals("GOES")) {
            return RaceWatch.NOT;
        }
        if (found.clocks[0][thread][thread] + v > 2147483647L) {
            return RaceWatch.MUCH;
        }
        come(thread, -1, v);
        return (int) found.clocks[0][thread][thread];
    }

    int drift(int n, int seed) {
        if (!in(n, 1, 40) || !in(seed, 1, 999999)) {
            return RaceWatch.OUTSIDE;
        }
        int before = count();
        long[] lots = new long[3 * n + 1];
        lots[0] = seed;
        for (int i = 1; i < lots.length; i++) {
            lots[i] = lots[i - 1] * 16807 % 2147483647;
        }
        for (int i = 1; i < lots.length; i += 3) {
            int sort = (int) (lots[i + 1] % 8);
            event((int) (lots[i] % 4), sort, (int) (lots[i + 2] % (last(sort) + 1)));
        }
        return count() - before;
    }

    // ---- the text

    private static final class Fault extends Exception {
        private static final long serialVersionUID = 1;
        final int number;
        final int at;

        Fault(int number, int at) {
            this.number = number;
            this.at = at;
        }
    }

    private int at;
    private int open;

    int run() {
        int before = count();
        at = 0;
        open = 0;
        int answer;
        try {
            items(0, false);
            answer = count() - before;
            faultAt = -1;
        } catch (Fault fault) {
            faultAt = fault.at;
            answer = -10 - fault.number;
        }
        text = new StringBuilder();
        return answer;
    }

    private int look() {
        while (at < text.length() && text.charAt(at) == ' ') {
            at++;
        }
        return at < text.length() ? text.charAt(at) : -1;
    }

    private void items(int thread, boolean within) throws Fault {
        while (look() != (within ? ')' : -1)) {
            item(thread);
        }
    }

    private void item(int thread) throws Fault {
        int sort = "rwl.pgfjt".indexOf(look());
        if (sort < 0 || look() == '.') {
            throw new Fault(1, at);
        }
        at++;
        int figure = look();
        if (!in(figure, '0', '9')) {
            throw new Fault(1, at);
        }
        int number = figure - '0';
        if (number > last(sort)) {
            throw new Fault(2, at);
        }
        if (sort == 8) {
            if (!found.states[number].equals("GOES")) {
                throw new Fault(4, at);
            }
            at++;
            bracket(number);
        } else if (sort == 2) {
            region(thread, number);
        } else {
            happen(thread, sort, number);
            sign(';');
        }
    }

    private void happen(int thread, int sort, int with) throws Fault {
        int need = 1 + open + (sort == 2 ? 1 : 0);
        if (count() + need > 160) {
            throw new Fault(3, at);
        }
        if (sort >= 6 && with == thread || not(thread, sort, with) || much(thread, sort)) {
            throw new Fault(4, at);
        }
        come(thread, sort, with);
        at++;
    }

    private void region(int thread, int lock) throws Fault {
        happen(thread, 2, lock);
        open++;
        entries.add(new Entry(lock, 1));
        try {
            bracket(thread);
        } finally {
            come(thread, 3, lock);
            open--;
            entries.add(new Entry(lock, 0));
        }
    }

    private void bracket(int thread) throws Fault {
        sign('(');
        items(thread, true);
        sign(')');
    }

    private void sign(char c) throws Fault {
        if (look() != c) {
            throw new Fault(1, at);
        }
        at++;
    }

    int fault() {
        return faultAt;
    }

    // ---- what is told

    int told(int what) {
        int sum = 0;
        for (int i = 0; i < 4; i++) {
            int races = found.races(i).size();
            sum += switch (what) {
                case 1 -> found.states[i].equals("GOES") ? 1 << i : 0;
                case 2 -> found.states[i].equals("DONE") ? 1 << i : 0;
                case 3 -> found.locksOf(i);
                case 4 -> races > 0 ? 1 << i : 0;
                case 5 -> races;
                case 8 -> found.promotions[i];
                default -> 0;
            };
        }
        return switch (what) {
            case 0 -> count();
            case 6 -> text.length();
            case 7 -> Math.min(24, entries.size());
            default -> in(what, 0, 8) ? sum : RaceWatch.OUTSIDE;
        };
    }

    int clock(int of, int k, int thread) {
        if (!in(thread, 0, 3)) {
            return RaceWatch.UNKNOWN;
        }
        if (!in(of, 0, 2)) {
            return RaceWatch.OUTSIDE;
        }
        return in(k, 0, 3 - of) ? (int) found.clocks[of][k][thread] : RaceWatch.UNKNOWN;
    }

    int eventOf(int e, int what) {
        if (!in(e, 0, count() - 1)) {
            return RaceWatch.UNKNOWN;
        }
        if (!in(what, 0, 7)) {
            return RaceWatch.OUTSIDE;
        }
        Event event = found.events.get(e);
        return switch (what) {
            case 0 -> event.thread;
            case 1 -> event.sort;
            case 2 -> event.with;
            case 7 -> event.locks;
            default -> (int) event.clock[what - 3];
        };
    }

    int holder(int lock) {
        return in(lock, 0, 2) ? found.holders[lock] : RaceWatch.UNKNOWN;
    }

    int journal(int i, int what) {
        if (!in(what, 0, 1)) {
            return RaceWatch.OUTSIDE;
        }
        if (!in(i, 0, 23) || i >= entries.size()) {
            return RaceWatch.NONE;
        }
        Entry entry = entries.get(entries.size() - 1 - i);
        return what == 0 ? entry.lock : entry.opened;
    }

    // ---- races

    int ahead(int e, int f) {
        boolean areTwo = e != f && in(e, 0, count() - 1) && in(f, 0, count() - 1);
        return !areTwo ? RaceWatch.UNKNOWN : found.ahead(e, f) ? 1 : 0;
    }

    int races(int cell, int kind) {
        if (!in(cell, 0, 3)) {
            return RaceWatch.UNKNOWN;
        }
        if (!in(kind, 0, 3)) {
            return RaceWatch.OUTSIDE;
        }
        return (int) found.races(cell).stream().filter(r -> kind == 3 || r.kind == kind).count();
    }

    int race(int cell, int k, int what) {
        if (!in(cell, 0, 3)) {
            return RaceWatch.UNKNOWN;
        }
        if (k < 0 || !in(what, 0, 2)) {
            return RaceWatch.OUTSIDE;
        }
        List<Race> races = found.races(cell);
        if (k >= races.size()) {
            return RaceWatch.NONE;
        }
        Race race = races.get(k);
        return what == 0 ? race.earlier : what == 1 ? race.later : race.kind;
    }

    int cell(int cell, int what) {
        if (!in(cell, 0, 3)) {
            return RaceWatch.UNKNOWN;
        }
        return switch (what) {
            case 0, 1 -> found.lastWrite[cell][what];
            case 2, 3 -> found.lastRead[cell][what - 2];
            case 4 -> found.shared[cell] == null ? 0 : 1;
            case 5 -> found.promotions[cell];
            case 6, 7 -> found.first[cell][what - 6];
            default -> RaceWatch.OUTSIDE;
        };
    }

    int shared(int cell, int thread) {
        if (!in(cell, 0, 3) || !in(thread, 0, 3)) {
            return RaceWatch.UNKNOWN;
        }
        return found.shared[cell] == null ? 0 : found.shared[cell][thread];
    }

    int would(int thread, int cell, boolean write) {
        if (!in(cell, 0, 3) || !in(thread, 0, 3)) {
            return RaceWatch.UNKNOWN;
        }
        return found.states[thread].equals("GOES") ? found.kind(cell, write, found.clocks[0][thread]) : RaceWatch.NOT;
    }

    int guard(int cell) {
        if (!in(cell, 0, 3)) {
            return RaceWatch.UNKNOWN;
        }
        return found.events.stream().filter(e -> e.isAccess() && e.with == cell).mapToInt(Event::locks).reduce(7, (a, b) -> a & b);
    }

    // ---- images

    int keep(int i) {
        if (!in(i, 0, 1)) {
            return RaceWatch.UNKNOWN;
        }
        images.set(i, new ArrayList<>(came));
        return count();
    }

    int goBack(int i) {
        if (!in(i, 0, 1)) {
            return RaceWatch.UNKNOWN;
        }
        if (images.get(i) == null) {
            return RaceWatch.NOT;
        }
        came = new ArrayList<>(images.get(i));
        find();
        return count();
    }
}
