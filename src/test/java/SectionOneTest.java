/** The sentences of section 1 that name a boundary case: CLOCKS, EVENTS, what is AHEAD, RACES, what a CELL keeps. */
public final class SectionOneTest {
    private static final int NOT = RaceWatch.NOT, NONE = RaceWatch.NONE, UNKNOWN = RaceWatch.UNKNOWN;
    private static final int READ = 0, WRITE = 1, TAKE = 2, LEAVE = 3, PUT = 4, GET = 5, FORK = 6, WAIT = 7;
    private static final Due due = new Due("SectionOneTest");

    public static void main(String[] args) {
        bounds();
        threadsAtFirst();
        clocksAtFirst();
        joinedIsTheGreaterOfBoth();
        joinedAtTheGreatest();
        stepIsOneMore();
        byAThreadThatGoes();
        takeOfALockThatNobodyHolds();
        leaveOfALockThatItHolds();
        putJoinsTheSeenCell();
        forkOfANewThread();
        waitForAnotherThatGoes();
        waitForOneThatHoldsNoLock();
        eventsKeepTheClock();
        aheadIsNoLess();
        raceOfTwoAccesses();
        kindsOfRaces();
        readRacesWithLastWrite();
        readBecomesLastRead();
        readBecomesShared();
        readOfASharedCell();
        writeRacesWithLastWrite();
        writeRacesWithLastRead();
        writeRacesWithAnyNumber();
        writeForgetsReads();
        firstStays();
        due.end();
    }

    /** THREADS 0 and the given ones GO. */
    private static Watch forked(int... threads) {
        Watch x = new Watch();
        for (int thread : threads) {
            x.event(0, FORK, thread);
        }
        return x;
    }

    private static void bounds() {
        due.sentence("THREADS 0 .. 3, LOCKS 0 .. 2, CELLS 0 .. 3, SEEN CELLS 0, 1");
        int[][] withs = {{READ, 3}, {WRITE, 3}, {TAKE, 2}, {PUT, 1}, {GET, 1}, {FORK, 3}, {WAIT, 3}, {LEAVE, 2}};
        for (int thread = 0; thread < 3; thread += 2) {
            Watch x = forked(2);
            for (int[] w : withs) {
                due.is("sort " + w[0] + ", first below", x.event(thread, w[0], -1), UNKNOWN);
                due.is("sort " + w[0] + ", first above", x.event(thread, w[0], w[1] + 1), UNKNOWN);
                int number = x.told(0);
                due.is("sort " + w[0] + ", the last one", x.event(thread, w[0], w[1]), number);
                due.is("eventOf its number", x.eventOf(number, 2), w[1]);
            }
        }
        Watch x = forked(3);
        int[][] zeros = {{READ, 0}, {WRITE, 0}, {TAKE, 0}, {LEAVE, 0}, {PUT, 0}, {GET, 0}, {WAIT, 0}};
        for (int i = 0; i < zeros.length; i++) {
            due.is("sort " + zeros[i][0] + " by 3, the number 0", x.event(3, zeros[i][0], zeros[i][1]), 1 + i);
        }
    }

    private static void threadsAtFirst() {
        due.sentence("A THREAD is NEW, GOES, or is DONE (0 GOES, others are NEW at first).");
        Watch x = new Watch();
        due.is("told(1)", x.told(1), 1);
        due.is("told(2)", x.told(2), 0);
        for (int thread = 1; thread < 4; thread++) {
            due.is("it does not GO yet", x.event(thread, READ, 0), NOT);
            due.is("it is not DONE, so FORK can be", x.event(0, FORK, thread), thread - 1);
        }
        due.is("0 is not NEW", x.event(1, FORK, 0), NOT);
        due.is("all GO", x.told(1), 15);
    }

    private static void clocksAtFirst() {
        due.sentence("1 for itself, 0 for others at first; of a LOCK, of a SEEN CELL: four numbers (0 at first)");
        Watch x = new Watch();
        due.row("THREAD 0", Seen.clock(x, 0, 0), 1, 0, 0, 0);
        due.row("THREAD 1", Seen.clock(x, 0, 1), 0, 1, 0, 0);
        due.row("THREAD 2", Seen.clock(x, 0, 2), 0, 0, 1, 0);
        due.row("THREAD 3", Seen.clock(x, 0, 3), 0, 0, 0, 1);
        for (int lock = 0; lock < 3; lock++) {
            due.row("LOCK " + lock, Seen.clock(x, 1, lock), 0, 0, 0, 0);
        }
        for (int seen = 0; seen < 2; seen++) {
            due.row("SEEN CELL " + seen, Seen.clock(x, 2, seen), 0, 0, 0, 0);
        }
    }

    /** Numbers 1: 21 and 3: 31 come to one side, 2: 11 to the other; each side has the greater of some. */
    private static void joinedIsTheGreaterOfBoth() {
        due.sentence("JOINED with another one: each number the greater of both.");
        Watch x = forked(1, 2, 3);
        x.jump(1, 20);
        x.jump(2, 10);
        x.jump(3, 30);
        x.event(3, PUT, 0);
        x.event(1, GET, 0);
        due.row("GET: clock of 1", Seen.clock(x, 0, 1), 3, 21, 0, 31);
        x.event(1, TAKE, 0);
        x.event(1, LEAVE, 0);
        due.row("clock of LOCK 0", Seen.clock(x, 1, 0), 3, 21, 0, 31);
        x.event(0, TAKE, 0);
        due.row("TAKE: clock of 0", Seen.clock(x, 0, 0), 4, 21, 0, 31);
        x.event(2, PUT, 1);
        due.row("PUT: clock of SEEN CELL 1", Seen.clock(x, 2, 1), 2, 0, 11, 0);
        x.event(0, PUT, 1);
        due.row("PUT again: clock of SEEN CELL 1", Seen.clock(x, 2, 1), 4, 21, 11, 31);
        x.event(2, PUT, 1);
        due.row("PUT of less: clock of SEEN CELL 1", Seen.clock(x, 2, 1), 4, 21, 12, 31);
        due.row("clock of 2", Seen.clock(x, 0, 2), 2, 0, 13, 0);
        x.event(2, WAIT, 1);
        due.row("WAIT: clock of 2", Seen.clock(x, 0, 2), 3, 22, 13, 31);
        due.row("clock of 1 is left as it is", Seen.clock(x, 0, 1), 3, 22, 0, 31);
        x.event(3, GET, 1);
        due.row("GET: clock of 3", Seen.clock(x, 0, 3), 4, 21, 12, 32);
        due.row("clock of SEEN CELL 1 is left as it is", Seen.clock(x, 2, 1), 4, 21, 12, 31);
    }

    /** LEAVE without a STEP: then a SEEN CELL can have as great a number of a THREAD as the THREAD itself. */
    private static void joinedAtTheGreatest() {
        due.sentence("JOINED with another one: each number the greater of both.");
        Watch x = forked(1, 2);
        x.jump(1, States.GREATEST - 1);
        due.runs(x, "t1(l0())t2(l0(p0;))p1;t1(g1;)", 7, -1);
        due.row("clock of SEEN CELL 0", Seen.clock(x, 2, 0), 2, States.GREATEST, 1, 0);
        due.row("clock of 1", Seen.clock(x, 0, 1), 3, States.GREATEST, 0, 0);
        x.event(1, GET, 0);
        due.row("GET: clock of 1", Seen.clock(x, 0, 1), 3, States.GREATEST, 1, 0);
    }

    private static void stepIsOneMore() {
        due.sentence("A STEP of a THREAD: its own number in its CLOCK is one more.");
        Watch x = forked(1);
        int[][] made = {{READ, 0}, {WRITE, 0}, {TAKE, 0}, {LEAVE, 0}, {PUT, 0}, {GET, 0}, {FORK, 2}, {WAIT, 2}};
        int[] own = {2, 2, 2, 3, 4, 4, 5, 5};
        for (int i = 0; i < made.length; i++) {
            x.event(0, made[i][0], made[i][1]);
            due.is("the own number behind sort " + made[i][0], x.clock(0, 0, 0), own[i]);
            due.is("the number of another", x.clock(0, 1, 1), 1);
        }
        due.is("WAIT makes no STEP of the other", x.clock(0, 2, 2), 1);
    }

    private static void byAThreadThatGoes() {
        due.sentence("EVENTS of a THREAD that GOES");
        Watch x = forked(2);
        x.event(0, WAIT, 2);
        int[][] made = {{READ, 0}, {WRITE, 0}, {TAKE, 0}, {PUT, 0}, {GET, 0}, {FORK, 3}, {WAIT, 3}};
        for (int[] m : made) {
            due.is("sort " + m[0] + " by a NEW one", x.event(1, m[0], m[1]), NOT);
            due.is("sort " + m[0] + " by one that is DONE", x.event(2, m[0], m[1]), NOT);
        }
        for (int i = 0; i < made.length; i++) {
            due.is("sort " + made[i][0] + " by one that GOES", x.event(0, made[i][0], made[i][1]), 2 + i);
        }
    }

    private static void takeOfALockThatNobodyHolds() {
        due.sentence("TAKE of a LOCK (that nobody holds): it holds it.");
        for (int lock = 0; lock < 3; lock++) {
            Watch x = forked(1);
            due.is("nobody holds it", x.holder(lock), NONE);
            due.is("TAKE", x.event(1, TAKE, lock), 1);
            due.is("it holds it", x.holder(lock), 1);
            due.is("TAKE by itself", x.event(1, TAKE, lock), NOT);
            due.is("TAKE by another", x.event(0, TAKE, lock), NOT);
            due.is("TAKE of another LOCK", x.event(0, TAKE, (lock + 1) % 3), 2);
            due.is("both are held", x.told(3), 1 << lock | 1 << (lock + 1) % 3);
            x.event(1, LEAVE, lock);
            due.is("TAKE of one that was left", x.event(0, TAKE, lock), 4);
            due.is("the other holds it", x.holder(lock), 0);
        }
    }

    private static void leaveOfALockThatItHolds() {
        due.sentence("LEAVE of a LOCK that it holds: CLOCK of the LOCK becomes that of the THREAD, then a STEP; nobody holds it.");
        for (int lock = 0; lock < 3; lock++) {
            Watch x = forked(1);
            due.is("LEAVE of what nobody holds", x.event(0, LEAVE, lock), NOT);
            x.event(0, TAKE, lock);
            due.row("TAKE leaves the clock of the LOCK", Seen.clock(x, 1, lock), 0, 0, 0, 0);
            due.is("LEAVE of what another holds", x.event(1, LEAVE, lock), NOT);
            due.is("LEAVE", x.event(0, LEAVE, lock), 2);
            due.row("as it was ahead of the STEP", Seen.clock(x, 1, lock), 2, 0, 0, 0);
            due.is("then a STEP", x.clock(0, 0, 0), 3);
            due.is("nobody holds it", x.holder(lock), NONE);
            due.is("LEAVE again", x.event(0, LEAVE, lock), NOT);
        }
    }

    private static void putJoinsTheSeenCell() {
        due.sentence("PUT to a SEEN CELL: CLOCK of that is JOINED with that of the THREAD, then a STEP.");
        for (int seen = 0; seen < 2; seen++) {
            Watch x = forked(1);
            due.is("GET of what nobody put to", x.event(1, GET, seen), 1);
            due.row("it brings nothing", Seen.clock(x, 0, 1), 1, 1, 0, 0);
            due.is("PUT", x.event(0, PUT, seen), 2);
            due.row("as it was ahead of the STEP", Seen.clock(x, 2, seen), 2, 0, 0, 0);
            due.row("the other SEEN CELL", Seen.clock(x, 2, 1 - seen), 0, 0, 0, 0);
            due.is("then a STEP", x.clock(0, 0, 0), 3);
            due.is("GET", x.event(1, GET, seen), 3);
            due.row("it brings that", Seen.clock(x, 0, 1), 2, 1, 0, 0);
        }
    }

    private static void forkOfANewThread() {
        due.sentence("FORK of a NEW THREAD: CLOCK of that is JOINED with that of the THREAD (it has its own 1 ahead of that), it GOES; then a STEP.");
        for (int thread = 1; thread < 4; thread++) {
            Watch x = new Watch();
            x.jump(0, 6);
            due.is("FORK", x.event(0, FORK, thread), 0);
            int[] clock = {7, 0, 0, 0};
            clock[thread] = 1;
            due.row("its own 1, and that of 0 ahead of the STEP", Seen.clock(x, 0, thread), clock);
            due.is("then a STEP", x.clock(0, 0, 0), 8);
            due.is("it GOES", x.told(1), 1 | 1 << thread);
            due.is("FORK of one that GOES", x.event(0, FORK, thread), NOT);
            x.event(0, WAIT, thread);
            due.is("FORK of one that is DONE", x.event(0, FORK, thread), NOT);
            due.is("FORK of itself", x.event(0, FORK, 0), UNKNOWN);
        }
    }

    private static void waitForAnotherThatGoes() {
        due.sentence("WAIT for another THREAD that GOES: CLOCK is JOINED with its; that is DONE.");
        for (int thread = 1; thread < 4; thread++) {
            Watch x = new Watch();
            due.is("WAIT for a NEW one", x.event(0, WAIT, thread), NOT);
            x.event(0, FORK, thread);
            x.jump(thread, 4);
            due.is("WAIT for itself", x.event(thread, WAIT, thread), UNKNOWN);
            due.is("WAIT", x.event(0, WAIT, thread), 1);
            int[] clock = {2, 0, 0, 0};
            clock[thread] = 5;
            due.row("JOINED, no STEP", Seen.clock(x, 0, 0), clock);
            due.is("that is DONE", x.told(2), 1 << thread);
            due.is("that does not GO", x.told(1), 1);
            due.is("WAIT for one that is DONE", x.event(0, WAIT, thread), NOT);
        }
    }

    private static void waitForOneThatHoldsNoLock() {
        due.sentence("WAIT for another THREAD that .. holds no LOCK");
        for (int lock = 0; lock < 3; lock++) {
            Watch x = forked(1, 2);
            x.event(1, TAKE, lock);
            due.is("WAIT for one that holds LOCK " + lock, x.event(0, WAIT, 1), NOT);
            due.is("told(1)", x.told(1), 7);
            due.is("WAIT by one that holds a LOCK, for one that holds none", x.event(1, WAIT, 2), 3);
            x.event(1, LEAVE, lock);
            due.is("WAIT for one that left it", x.event(0, WAIT, 1), 5);
        }
        Watch x = forked(1);
        x.event(1, TAKE, 0);
        x.event(1, TAKE, 2);
        x.event(1, LEAVE, 0);
        due.is("one of two LOCKS is still held", x.event(0, WAIT, 1), NOT);
        x.event(1, LEAVE, 2);
        due.is("none is held", x.event(0, WAIT, 1), 5);
    }

    private static void eventsKeepTheClock() {
        due.sentence("READ, WRITE, PUT, LEAVE, FORK as it is ahead, TAKE, GET, WAIT as it is behind.");
        Watch x = forked(1);
        x.event(1, TAKE, 0);
        x.event(1, LEAVE, 0);
        x.event(1, PUT, 0);
        due.row("FORK", Seen.event(x, 0), 0, FORK, 1, 1, 0, 0, 0, 0);
        due.row("LEAVE", Seen.event(x, 2), 1, LEAVE, 0, 1, 1, 0, 0, 0);
        due.row("PUT", Seen.event(x, 3), 1, PUT, 0, 1, 2, 0, 0, 0);
        x.event(0, TAKE, 0);
        due.row("TAKE", Seen.event(x, 4), 0, TAKE, 0, 2, 1, 0, 0, 1);
        x.event(0, GET, 0);
        due.row("GET", Seen.event(x, 5), 0, GET, 0, 2, 2, 0, 0, 1);
        x.event(0, WAIT, 1);
        due.row("WAIT", Seen.event(x, 6), 0, WAIT, 1, 2, 3, 0, 0, 1);
        x.event(0, READ, 3);
        x.event(0, WRITE, 3);
        due.row("READ", Seen.event(x, 7), 0, READ, 3, 2, 3, 0, 0, 1);
        due.row("WRITE", Seen.event(x, 8), 0, WRITE, 3, 2, 3, 0, 0, 1);
        x.jump(0, 5);
        x.event(0, LEAVE, 0);
        due.row("LEAVE", Seen.event(x, 9), 0, LEAVE, 0, 7, 3, 0, 0, 0);
        due.row("WRITE stays as it was kept", Seen.event(x, 8), 0, WRITE, 3, 2, 3, 0, 0, 1);
    }

    /** THREAD 1 gets 0's number 2; an access of 0 ahead of its PUT has 2, one behind it 3. */
    private static void aheadIsNoLess() {
        due.sentence("the number of e's THREAD is no less than that of the CLOCK that e keeps");
        Watch x = forked(1);
        due.runs(x, "w0;p0;w0;t1(g0;w1;w0;)", 6, -1);
        due.is("number of 0 in the clock of 5", x.eventOf(5, 3), 2);
        due.is("as great: the access", x.ahead(1, 5), 1);
        due.is("as great: the PUT", x.ahead(2, 5), 1);
        due.is("one less", x.ahead(3, 5), 0);
        due.is("less: FORK is 1", x.ahead(0, 5), 1);
        due.sentence("EVENT e is AHEAD of a later EVENT f");
        due.is("same THREAD, later", x.ahead(5, 6), 1);
        due.is("same THREAD, earlier, with the same clock", x.ahead(6, 5), 0);
        due.is("another THREAD, earlier", x.ahead(5, 1), 0);
    }

    private static void raceOfTwoAccesses() {
        due.sentence("A RACE: two accesses (READ, WRITE) of a CELL by two THREADS, not both READ, the earlier not AHEAD of the later.");
        Watch x = forked(1);
        due.runs(x, "w0;w0;r0;", 3, -1);
        due.is("one THREAD", x.races(0, 3), 0);
        due.runs(x, "t1(w1;)", 1, -1);
        due.is("two CELLS", x.told(5), 0);
        due.runs(x, "r2;t1(r2;)", 2, -1);
        due.is("both READ", x.races(2, 3), 0);
        due.runs(x, "p0;g0;t1(p0;g0;)", 4, -1);
        due.is("no accesses, though not AHEAD", x.told(5), 0);
        due.runs(x, "t1(w0;)", 1, -1);
        due.is("AHEAD by PUT and GET", x.races(0, 3), 0);
        due.runs(x, "r0;", 1, -1);
        due.is("the later WRITE of 1 is not AHEAD", x.races(0, 3), 1);
        due.row("it is that pair", Seen.race(x, 0, 0), 11, 12, 1);
        due.is("the earlier ones are AHEAD", x.race(0, 1, 0), NONE);
    }

    private static void kindsOfRaces() {
        due.sentence("KIND: 0 both WRITE, 1 the earlier WRITE, 2 the earlier READ.");
        String[] texts = {"w2;t1(w2;)", "w2;t1(r2;)", "r2;t1(w2;)", "r2;t1(r2;)"};
        int[][] counts = {{1, 0, 0, 1}, {0, 1, 0, 1}, {0, 0, 1, 1}, {0, 0, 0, 0}};
        for (int kind = 0; kind < 4; kind++) {
            Watch x = forked(1);
            due.runs(x, texts[kind], 2, -1);
            due.row("races of " + texts[kind], Seen.races(x, 2), counts[kind]);
            due.is("race of " + texts[kind], x.race(2, 0, 2), kind < 3 ? kind : NONE);
            due.is("FIRST of " + texts[kind], x.cell(2, 7), kind < 3 ? kind : NONE);
        }
    }

    private static void readRacesWithLastWrite() {
        due.sentence("it RACES (KIND 1), if LAST WRITE is by u and c has less than its number for u");
        Watch x = forked(1, 2);
        due.runs(x, "t1(r3;)", 1, -1);
        due.is("no LAST WRITE", x.cell(3, 6), NONE);
        due.runs(x, "w0;p0;w1;t1(g0;r0;)", 5, -1);
        due.is("LAST WRITE has 3", x.cell(0, 1), 3);
        due.is("c has 3 for 0", x.clock(0, 1, 0), 3);
        due.is("as great", x.cell(0, 6), NONE);
        due.runs(x, "t1(r1;)", 1, -1);
        due.is("LAST WRITE has 4", x.cell(1, 1), 4);
        due.is("one less: FIRST", x.cell(1, 6), 8);
        due.is("one less: KIND", x.cell(1, 7), 1);
    }

    private static void readBecomesLastRead() {
        due.sentence("if there is no LAST READ or c has no less than its number for its THREAD, LAST READ becomes that of t");
        Watch x = forked(1);
        due.row("none at first", Seen.cell(x, 0), -1, 0, -1, 0, 0, 0, -1, -1);
        due.runs(x, "r0;", 1, -1);
        due.row("there was none", Seen.cell(x, 0), -1, 0, 0, 2, 0, 0, -1, -1);
        due.runs(x, "p0;r1;t1(g0;r0;)", 4, -1);
        due.row("c has as much", Seen.cell(x, 0), -1, 0, 1, 1, 0, 0, -1, -1);
        due.runs(x, "t1(r1;)", 1, -1);
        due.row("c has one less", Seen.cell(x, 1), -1, 0, -1, 0, 1, 1, -1, -1);
        x.jump(1, 3);
        due.runs(x, "t1(r0;)", 1, -1);
        due.row("its own READ", Seen.cell(x, 0), -1, 0, 1, 4, 0, 0, -1, -1);
    }

    private static void readBecomesShared() {
        due.sentence("else it becomes SHARED (a PROMOTION, counted) with both numbers");
        for (int t = 0; t < 4; t++) {
            for (int u = 0; u < 4; u++) {
                if (t != u) {
                    Watch x = forked(1, 2, 3);
                    x.jump(t, 20);
                    x.jump(u, 30);
                    x.event(t, READ, 3);
                    int[] numbers = new int[4];
                    due.row("one READ", Seen.shared(x, 3), numbers);
                    x.event(u, READ, 3);
                    numbers[t] = x.clock(0, t, t);
                    numbers[u] = x.clock(0, u, u);
                    due.row("both numbers, 0 for none", Seen.shared(x, 3), numbers);
                    due.row("SHARED, counted", Seen.cell(x, 3), -1, 0, -1, 0, 1, 1, -1, -1);
                    due.is("told(8)", x.told(8), 1);
                }
            }
        }
    }

    private static void readOfASharedCell() {
        due.sentence("if it is SHARED, the number of t becomes c's for t");
        Watch x = forked(1, 2, 3);
        due.runs(x, "t1(r0;)t2(r0;)", 2, -1);
        due.row("two", Seen.shared(x, 0), 0, 1, 1, 0);
        x.jump(2, 8);
        due.runs(x, "t2(r0;)", 1, -1);
        due.row("a greater one", Seen.shared(x, 0), 0, 1, 9, 0);
        due.runs(x, "t3(r0;)r0;", 2, -1);
        due.row("all four", Seen.shared(x, 0), 4, 1, 9, 1);
        due.runs(x, "t1(p0;)t2(p0;)t3(p0;)g0;r0;", 5, -1);
        due.row("it stays SHARED, though all are AHEAD now", Seen.shared(x, 0), 4, 1, 9, 1);
        due.row("no further PROMOTION, no LAST READ", Seen.cell(x, 0), -1, 0, -1, 0, 1, 1, -1, -1);
    }

    private static void writeRacesWithLastWrite() {
        due.sentence("At a WRITE: it RACES, KIND 0, if LAST WRITE is not AHEAD so, else KIND 2");
        Watch x = forked(1);
        due.runs(x, "t1(w2;)", 1, -1);
        due.is("no LAST WRITE", x.cell(2, 6), NONE);
        due.runs(x, "w0;p0;w1;r1;t1(g0;w0;)", 6, -1);
        due.is("c has as much", x.cell(0, 6), NONE);
        due.runs(x, "t1(w1;)", 1, -1);
        due.is("c has one less, LAST READ is not AHEAD either: FIRST", x.cell(1, 6), 8);
        due.is("KIND 0 is ahead of KIND 2", x.cell(1, 7), 0);
        due.row("LAST WRITE becomes that of t all the same", Seen.cell(x, 1), 1, 1, -1, 0, 0, 0, 8, 0);
    }

    private static void writeRacesWithLastRead() {
        due.sentence("else KIND 2, if LAST READ is not");
        Watch x = forked(1);
        due.runs(x, "w0;r0;p0;r0;w1;r1;p0;t1(g0;w1;)", 9, -1);
        due.is("c has as much", x.cell(1, 6), NONE);
        due.runs(x, "r2;t1(w2;)", 2, -1);
        due.is("c has one less: FIRST", x.cell(2, 6), 11);
        due.is("KIND 2", x.cell(2, 7), 2);
        Watch y = forked(1);
        due.runs(y, "w0;r0;p0;r0;t1(g0;w0;)", 6, -1);
        due.is("LAST WRITE is AHEAD, LAST READ is not", y.cell(0, 7), 2);
        Watch z = forked(1);
        due.runs(z, "t1(w0;)", 1, -1);
        due.is("no LAST READ", z.cell(0, 6), NONE);
    }

    /** All numbers of a SHARED CELL are AHEAD but that of one THREAD, each in turn. */
    private static void writeRacesWithAnyNumber() {
        due.sentence("LAST READ (any number, if SHARED)");
        for (int late = -1; late < 4; late++) {
            for (int writer = 0; writer < 4; writer++) {
                Watch x = forked(1, 2, 3);
                for (int thread = 0; thread < 4; thread++) {
                    x.event(thread, READ, 1);
                }
                for (int thread = 0; thread < 4; thread++) {
                    if (thread != late) {
                        x.event(thread, PUT, 0);
                    }
                }
                x.event(writer, GET, 0);
                int kind = late == -1 || late == writer ? NONE : 2;
                due.is("SHARED", x.cell(1, 4), 1);
                due.is("would, late is " + late + ", WRITE by " + writer, x.would(writer, 1, true), kind);
                int number = x.event(writer, WRITE, 1);
                due.is("FIRST, late is " + late + ", WRITE by " + writer, x.cell(1, 6), kind == NONE ? NONE : number);
                due.is("KIND, late is " + late + ", WRITE by " + writer, x.cell(1, 7), kind);
            }
        }
    }

    private static void writeForgetsReads() {
        due.sentence("Then LAST WRITE becomes that of t, LAST READ none, not SHARED.");
        Watch x = forked(1);
        due.runs(x, "r0;t1(r0;)r1;", 3, -1);
        x.jump(1, 4);
        due.runs(x, "t1(w0;w1;)", 2, -1);
        due.row("it was SHARED", Seen.cell(x, 0), 1, 5, -1, 0, 0, 1, 4, 2);
        due.row("no numbers", Seen.shared(x, 0), 0, 0, 0, 0);
        due.row("it had a LAST READ", Seen.cell(x, 1), 1, 5, -1, 0, 0, 0, 5, 2);
        due.runs(x, "t1(r0;)r0;", 2, -1);
        due.row("SHARED anew, just both numbers", Seen.shared(x, 0), 2, 5, 0, 0);
        due.is("a second PROMOTION", x.cell(0, 5), 2);
        due.is("told(8)", x.told(8), 2);
        x.event(0, WRITE, 0);
        due.is("PROMOTIONS stay", x.cell(0, 5), 2);
    }

    private static void firstStays() {
        due.sentence("FIRST of a CELL: the first EVENT at which it RACES so, and the KIND.");
        Watch x = new Watch();
        due.is("no RACE: the EVENT", x.cell(3, 6), NONE);
        due.is("no RACE: the KIND", x.cell(3, 7), NONE);
        due.runs(x, "f1;w3;t1(r3;)w3;t1(w3;)", 5, -1);
        due.is("the first EVENT", x.cell(3, 6), 2);
        due.is("its KIND", x.cell(3, 7), 1);
        due.is("there were more", x.races(3, 3), 4);
        due.is("of another CELL", x.cell(2, 6), NONE);
        Watch y = new Watch();
        due.runs(y, "f1;t1(w0;w0;w0;)r1;t1(w1;)", 6, -1);
        due.is("each CELL has its own", y.cell(0, 6), NONE);
        due.is("each CELL has its own", y.cell(1, 6), 5);
    }
}
