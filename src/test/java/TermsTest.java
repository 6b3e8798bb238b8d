/** The sentences of 'Terms' that name a boundary case: numbers, SETS, the REFUSALS, their order, and that they change nothing. */
public final class TermsTest {
    private static final int GREATEST = States.GREATEST;
    private static final int LEAST = -2147483648;
    private static final int UNKNOWN = RaceWatch.UNKNOWN, OUTSIDE = RaceWatch.OUTSIDE, NOT = RaceWatch.NOT, FULL = RaceWatch.FULL, MUCH = RaceWatch.MUCH;
    private static final int READ = 0, WRITE = 1, TAKE = 2, LEAVE = 3, PUT = 4, GET = 5, FORK = 6, WAIT = 7;
    /** How many CELLS, LOCKS, SEEN CELLS, THREADS there are for EVENTS of each sort. */
    private static final int[] BOUNDS = {4, 4, 3, 3, 2, 2, 4, 4};

    private static final Due due = new Due("TermsTest");
    private static final Still[] STATES = {new Still(due, "new", new Watch()), new Still(due, "busy", States.busy()),
        new Still(due, "full", States.full()), new Still(due, "great", States.great()), new Still(due, "full and great", States.fullAndGreat())};
    private static final Still BUSY = STATES[1], IS_FULL = STATES[2], GREAT = STATES[3], FULL_AND_GREAT = STATES[4];
    private static final Still[] OLDER = {BUSY, IS_FULL, GREAT, FULL_AND_GREAT};

    public static void main(String[] args) {
        statesAreAsTold();
        numbersAsTheyCome();
        setsHaveBitK();
        constants();
        eventIsUnknown();
        eventIsUnknownItself();
        eventIsOutside();
        eventIsNot();
        eventIsFull();
        eventIsMuch();
        eventIsNotRefusedAtTheGreatest();
        feedRefusals();
        jumpRefusals();
        driftRefusals();
        imageRefusals();
        refusalsOfWhatIsTold();
        refusalsOfRaces();
        due.end();
    }

    /** Else what is refused below would be refused for another cause. */
    private static void statesAreAsTold() {
        Watch[] states = {States.busy(), States.full(), States.great(), States.fullAndGreat()};
        for (int i = 0; i < 4; i++) {
            Watch x = states[i];
            due.is("THREADS that GO", x.told(1), 3);
            due.is("THREADS that are DONE", x.told(2), 4);
            due.is("holder(0)", x.holder(0), -1);
            due.is("holder(1)", x.holder(1), 1);
            due.is("holder(2)", x.holder(2), -1);
            due.yes("EVENTS", i % 2 == 1 ? x.told(0) == 160 : x.told(0) < 159);
            due.yes("clock of 0", i < 2 ? x.clock(0, 0, 0) < 100 : x.clock(0, 0, 0) == GREATEST);
            due.yes("clock of 1", i < 2 ? x.clock(0, 1, 1) < 100 : x.clock(0, 1, 1) == GREATEST);
            due.yes("RACES", x.told(5) > 0);
            due.is("SHARED", x.cell(1, 4), 1);
            due.is("letters", x.told(6), 3);
            due.is("entries", x.told(7), 2);
            due.yes("a FAULT", x.fault() > 0);
            due.yes("IMAGE 0", x.goBack(0) > 0);
        }
    }

    private static void numbersAsTheyCome() {
        due.sentence("What has a number has it from 0 on, as it comes.");
        Watch x = new Watch();
        due.is("the first EVENT", x.event(0, FORK, 1), 0);
        due.is("one that is refused has none", x.event(0, FORK, 1), NOT);
        due.is("the second EVENT", x.event(1, READ, 0), 1);
        due.runs(x, "l0(r1;)", 3, -1);
        due.is("behind a text", x.event(0, READ, 0), 5);
        int came = x.drift(40, 7);
        due.yes("some come by lots", came > 0);
        due.is("behind lots", x.event(1, READ, 0), 6 + came);
        x.anew();
        due.is("anew", x.event(0, READ, 0), 0);
        due.runs(x, "l0(x", -11, 3);
        due.is("behind a FAULT", x.event(0, READ, 0), 3);
    }

    private static void setsHaveBitK() {
        due.sentence("A SET is a whole number, bit k for k.");
        for (int k = 1; k < 4; k++) {
            Watch x = new Watch();
            x.event(0, FORK, k);
            due.is("told(1) with " + k, x.told(1), 1 + (1 << k));
            x.event(0, WAIT, k);
            due.is("told(2) with " + k, x.told(2), 1 << k);
        }
        for (int k = 0; k < 3; k++) {
            Watch x = new Watch();
            due.is("nothing is held", x.told(3), 0);
            x.event(0, TAKE, k);
            x.event(0, WRITE, 0);
            due.is("told(3) with " + k, x.told(3), 1 << k);
            due.is("eventOf(1, 7) with " + k, x.eventOf(1, 7), 1 << k);
            due.is("guard(0) with " + k, x.guard(0), 1 << k);
        }
        for (int k = 0; k < 4; k++) {
            Watch x = new Watch();
            due.is("no RACE", x.told(4), 0);
            due.runs(x, "f1;w" + k + ";t1(w" + k + ";)", 3, -1);
            due.is("told(4) with " + k, x.told(4), 1 << k);
        }
        Watch x = new Watch();
        due.runs(x, "f1;f2;f3;w0;w1;w2;w3;t1(w0;w1;w2;w3;)", 11, -1);
        for (int lock = 0; lock < 3; lock++) {
            x.event(lock, TAKE, lock);
        }
        due.is("all THREADS", x.told(1), 15);
        due.is("all LOCKS", x.told(3), 7);
        due.is("all CELLS", x.told(4), 15);
    }

    private static void constants() {
        due.sentence("NONE is -1. They are far below all that is counted: -1000000001 and on.");
        due.is("NONE", RaceWatch.NONE, -1);
        due.row("in their order", new int[] {UNKNOWN, OUTSIDE, NOT, FULL, MUCH}, -1000000001, -1000000002, -1000000003, -1000000004, -1000000005);
    }

    /** In each state, and by THREADS that do not GO too: UNKNOWN is ahead of all others. */
    private static void eventIsUnknown() {
        due.sentence("UNKNOWN (a THREAD, LOCK, CELL, SEEN CELL that there is not)");
        for (Still state : STATES) {
            for (int thread : new int[] {LEAST, -1, 4, GREATEST}) {
                for (int sort = -1; sort <= 8; sort++) {
                    state.is(UNKNOWN, "event", thread, sort, 0);
                }
            }
            for (int thread = 0; thread < 4; thread++) {
                for (int sort = 0; sort < 8; sort++) {
                    state.is(UNKNOWN, "event", thread, sort, -1);
                    state.is(UNKNOWN, "event", thread, sort, BOUNDS[sort]);
                }
            }
            for (int sort = 0; sort < 8; sort++) {
                state.is(UNKNOWN, "event", 0, sort, LEAST);
                state.is(UNKNOWN, "event", 0, sort, GREATEST);
            }
        }
    }

    private static void eventIsUnknownItself() {
        due.sentence("one twice, where two are asked");
        for (Still state : STATES) {
            for (int thread = 0; thread < 4; thread++) {
                state.is(UNKNOWN, "event", thread, FORK, thread);
                state.is(UNKNOWN, "event", thread, WAIT, thread);
            }
        }
        for (Still state : OLDER) {
            state.is(UNKNOWN, "ahead", 0, 0);
            state.is(UNKNOWN, "ahead", 5, 5);
        }
        IS_FULL.is(UNKNOWN, "ahead", 159, 159);
    }

    private static void eventIsOutside() {
        due.sentence("OUTSIDE (another number out of its bounds)");
        for (Still state : STATES) {
            for (int thread = 0; thread < 4; thread++) {
                for (int sort : new int[] {LEAST, -1, 8, GREATEST}) {
                    state.is(OUTSIDE, "event", thread, sort, 0);
                }
            }
        }
    }

    /** NOT is ahead of FULL and of MUCH. */
    private static void eventIsNot() {
        due.sentence("NOT (not now, as told)");
        for (Still state : OLDER) {
            for (int thread = 2; thread < 4; thread++) {
                for (int sort = 0; sort < 8; sort++) {
                    state.is(NOT, "event", thread, sort, 0);
                }
            }
            state.is(NOT, "event", 0, TAKE, 1);
            state.is(NOT, "event", 1, TAKE, 1);
            for (int lock = 0; lock < 3; lock++) {
                state.is(NOT, "event", 0, LEAVE, lock);
            }
            state.is(NOT, "event", 1, LEAVE, 0);
            state.is(NOT, "event", 1, LEAVE, 2);
            state.is(NOT, "event", 0, FORK, 1);
            state.is(NOT, "event", 0, FORK, 2);
            state.is(NOT, "event", 1, FORK, 0);
            state.is(NOT, "event", 1, FORK, 2);
            state.is(NOT, "event", 0, WAIT, 1);
            state.is(NOT, "event", 0, WAIT, 2);
            state.is(NOT, "event", 0, WAIT, 3);
        }
    }

    /** FULL is ahead of MUCH. */
    private static void eventIsFull() {
        due.sentence("FULL (160 EVENTS)");
        for (Still state : new Still[] {IS_FULL, FULL_AND_GREAT}) {
            for (int thread = 0; thread < 2; thread++) {
                for (int number = 0; number < 4; number++) {
                    state.is(FULL, "event", thread, READ, number);
                    state.is(FULL, "event", thread, WRITE, number);
                }
                for (int number = 0; number < 2; number++) {
                    state.is(FULL, "event", thread, PUT, number);
                    state.is(FULL, "event", thread, GET, number);
                }
                state.is(FULL, "event", thread, TAKE, 0);
                state.is(FULL, "event", thread, TAKE, 2);
                state.is(FULL, "event", thread, FORK, 3);
            }
            state.is(FULL, "event", 1, LEAVE, 1);
            state.is(FULL, "event", 1, WAIT, 0);
        }
        Watch x = States.withReads(159);
        due.is("the last one that there is room for", x.event(0, READ, 0), 159);
        due.is("the first one too many", x.event(0, READ, 0), FULL);
    }

    private static void eventIsMuch() {
        due.sentence("MUCH (a clock would be above 2147483647)");
        for (int thread = 0; thread < 2; thread++) {
            GREAT.is(MUCH, "event", thread, PUT, 0);
            GREAT.is(MUCH, "event", thread, PUT, 1);
            GREAT.is(MUCH, "event", thread, FORK, 3);
            GREAT.is(MUCH, "jump", thread, 1);
        }
        GREAT.is(MUCH, "event", 1, LEAVE, 1);
        for (int[] made : new int[][] {{PUT, 1}, {FORK, 2}, {LEAVE, 1}}) {
            Watch x = new Watch();
            x.event(0, TAKE, 1);
            due.is("one below the greatest", x.jump(0, GREATEST - 2), GREATEST - 1);
            due.is("up to the greatest by sort " + made[0], x.event(0, made[0], made[1]), 1);
            due.is("it is the greatest", x.clock(0, 0, 0), GREATEST);
        }
    }

    private static void eventIsNotRefusedAtTheGreatest() {
        due.sentence("MUCH: a STEP.");
        int[][] made = {{0, READ, 0}, {0, WRITE, 0}, {0, TAKE, 0}, {0, GET, 0}, {1, WAIT, 0}};
        for (int[] m : made) {
            Watch x = States.great();
            int number = x.told(0);
            due.is("sort " + m[1] + " makes no STEP", x.event(m[0], m[1], m[2]), number);
            due.is("clock of 0", x.clock(0, 0, 0), GREATEST);
            due.is("clock of 1", x.clock(0, 1, 1), GREATEST);
        }
    }

    private static void feedRefusals() {
        due.sentence("feed: OUTSIDE, FULL (240).");
        Watch x = States.busy();
        for (int letter = x.told(6); letter < 240; letter++) {
            x.feed('r');
        }
        Still fullText = new Still(due, "240 letters", x);
        fullText.is(FULL, "feed", 0);
        fullText.is(FULL, "feed", ' ');
        fullText.is(FULL, "feed", 255);
        for (Still state : new Still[] {BUSY, IS_FULL, fullText}) {
            for (int letter : new int[] {LEAST, -1, 256, 256 + 'r', GREATEST}) {
                state.is(OUTSIDE, "feed", letter);
            }
        }
    }

    private static void jumpRefusals() {
        due.sentence("jump: UNKNOWN, OUTSIDE, NOT, MUCH.");
        for (Still state : STATES) {
            for (int thread : new int[] {LEAST, -1, 4, GREATEST}) {
                for (int v : new int[] {LEAST, 0, 1, GREATEST}) {
                    state.is(UNKNOWN, "jump", thread, v);
                }
            }
            for (int thread = 0; thread < 4; thread++) {
                for (int v : new int[] {LEAST, -1, 0}) {
                    state.is(OUTSIDE, "jump", thread, v);
                }
            }
            for (int v : new int[] {1, GREATEST}) {
                state.is(NOT, "jump", 2, v);
                state.is(NOT, "jump", 3, v);
            }
            state.is(MUCH, "jump", 0, GREATEST);
        }
    }

    private static void driftRefusals() {
        due.sentence("drift: OUTSIDE.");
        for (Still state : new Still[] {STATES[0], BUSY}) {
            for (int n : new int[] {LEAST, -1, 0, 41, GREATEST}) {
                state.is(OUTSIDE, "drift", n, 1);
                state.is(OUTSIDE, "drift", n, 0);
            }
            for (int seed : new int[] {LEAST, -1, 0, 1000000, GREATEST}) {
                state.is(OUTSIDE, "drift", 1, seed);
                state.is(OUTSIDE, "drift", 40, seed);
            }
        }
    }

    private static void imageRefusals() {
        due.sentence("an IMAGE that there is not");
        for (Still state : STATES) {
            for (int i : new int[] {LEAST, -1, 2, GREATEST}) {
                state.is(UNKNOWN, "keep", i);
                state.is(UNKNOWN, "goBack", i);
            }
            state.is(NOT, "goBack", 1);
        }
        STATES[0].is(NOT, "goBack", 0);
    }

    private static void refusalsOfWhatIsTold() {
        due.sentence("UNKNOWN goes ahead of OUTSIDE");
        BUSY.is(OUTSIDE, "told", -1);
        BUSY.is(OUTSIDE, "told", 9);
        BUSY.is(OUTSIDE, "told", LEAST);
        BUSY.is(OUTSIDE, "told", GREATEST);
        for (int of = -1; of <= 3; of++) {
            BUSY.is(UNKNOWN, "clock", of, 0, -1);
            BUSY.is(UNKNOWN, "clock", of, 0, 4);
        }
        for (int of = 0; of < 3; of++) {
            BUSY.is(UNKNOWN, "clock", of, -1, 0);
            BUSY.is(UNKNOWN, "clock", of, 4 - of, 0);
        }
        BUSY.is(OUTSIDE, "clock", -1, 0, 0);
        BUSY.is(OUTSIDE, "clock", 3, 0, 0);
        for (int what : new int[] {-1, 0, 7, 8}) {
            BUSY.is(UNKNOWN, "eventOf", -1, what);
            BUSY.is(UNKNOWN, "eventOf", 160, what);
            IS_FULL.is(UNKNOWN, "eventOf", 160, what);
            STATES[0].is(UNKNOWN, "eventOf", 0, what);
        }
        BUSY.is(OUTSIDE, "eventOf", 0, -1);
        BUSY.is(OUTSIDE, "eventOf", 0, 8);
        BUSY.is(UNKNOWN, "holder", -1);
        BUSY.is(UNKNOWN, "holder", 3);
        BUSY.is(OUTSIDE, "journal", 0, -1);
        BUSY.is(OUTSIDE, "journal", 0, 2);
        BUSY.is(OUTSIDE, "journal", 24, 2);
        BUSY.is(OUTSIDE, "journal", -1, -1);
    }

    private static void refusalsOfRaces() {
        due.sentence("UNKNOWN goes ahead of OUTSIDE and of NOT");
        for (int cell : new int[] {LEAST, -1, 4, GREATEST}) {
            for (int what : new int[] {-1, 0, 3, 4, 8}) {
                BUSY.is(UNKNOWN, "races", cell, what);
                BUSY.is(UNKNOWN, "race", cell, 0, what);
                BUSY.is(UNKNOWN, "race", cell, -1, what);
                BUSY.is(UNKNOWN, "cell", cell, what);
                BUSY.is(UNKNOWN, "shared", cell, what);
            }
            for (int thread = -1; thread <= 4; thread++) {
                BUSY.is(UNKNOWN, "would", thread, cell, 0);
                BUSY.is(UNKNOWN, "would", thread, cell, 1);
            }
            BUSY.is(UNKNOWN, "guard", cell);
        }
        for (int thread : new int[] {LEAST, -1, 4, GREATEST}) {
            BUSY.is(UNKNOWN, "shared", 0, thread);
            BUSY.is(UNKNOWN, "would", thread, 0, 0);
            BUSY.is(UNKNOWN, "would", thread, 0, 1);
        }
        for (int thread = 2; thread < 4; thread++) {
            BUSY.is(NOT, "would", thread, 0, 0);
            BUSY.is(NOT, "would", thread, 3, 1);
        }
        for (int cell = 0; cell < 4; cell++) {
            BUSY.is(OUTSIDE, "races", cell, -1);
            BUSY.is(OUTSIDE, "races", cell, 4);
            BUSY.is(OUTSIDE, "race", cell, -1, 0);
            BUSY.is(OUTSIDE, "race", cell, 0, -1);
            BUSY.is(OUTSIDE, "race", cell, 0, 3);
            BUSY.is(OUTSIDE, "cell", cell, -1);
            BUSY.is(OUTSIDE, "cell", cell, 8);
        }
        BUSY.is(UNKNOWN, "ahead", -1, 0);
        BUSY.is(UNKNOWN, "ahead", 0, -1);
        IS_FULL.is(UNKNOWN, "ahead", 159, 160);
        IS_FULL.is(UNKNOWN, "ahead", 160, 159);
    }
}
