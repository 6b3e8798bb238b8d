/** Promise by promise: the last value that is allowed and the first that is not, on both sides; empty and full. */
public final class PromisesTest {
    private static final int GREATEST = States.GREATEST;
    private static final int NONE = RaceWatch.NONE, UNKNOWN = RaceWatch.UNKNOWN, OUTSIDE = RaceWatch.OUTSIDE, NOT = RaceWatch.NOT, FULL = RaceWatch.FULL,
        MUCH = RaceWatch.MUCH;
    private static final int READ = 0, WRITE = 1, TAKE = 2, LEAVE = 3, PUT = 4, GET = 5, FORK = 6, WAIT = 7;
    private static final Due due = new Due("PromisesTest");

    public static void main(String[] args) {
        promise1();
        promise2();
        promise2Stays();
        promise3();
        promise4();
        promise4Empties();
        promise5();
        promise6();
        promise7();
        promise7OwnNumberAlone();
        promise8();
        promise9();
        promise10();
        promise11();
        promise12();
        promise13();
        promise14();
        promise15();
        promise16();
        promise17();
        promise18();
        promise19();
        promise20();
        promise21();
        promise22();
        callsUpToTheLast();
        due.end();
    }

    private static void promise1() {
        due.sentence("RaceWatch(): THREAD 0 GOES; no EVENTS.");
        Watch x = new Watch();
        due.row("told", new int[] {x.told(0), x.told(1), x.told(2), x.told(3), x.told(4), x.told(5), x.told(6), x.told(7), x.told(8)}, 0, 1, 0, 0, 0, 0, 0, 0, 0);
        due.is("eventOf(0, 0)", x.eventOf(0, 0), UNKNOWN);
        due.is("anew()", x.anew(), 0);
        due.is("run()", x.run(), 0);
        due.is("keep(0)", x.keep(0), 0);
        String first = Seen.all(new Watch());
        States.busy();
        due.yes("objects share nothing", Seen.all(new Watch()).equals(first));
    }

    private static void promise2() {
        due.sentence("anew(): All as at first: how many EVENTS there were.");
        String first = Seen.sectionOne(new Watch());
        Watch[] states = {new Watch(), States.withReads(1), States.busy(), States.great(), States.withReads(159), States.full(), States.fullAndGreat()};
        for (Watch x : states) {
            int count = x.told(0);
            due.is("anew() of " + count, x.anew(), count);
            due.yes("all as at first", Seen.sectionOne(x).equals(first));
            due.is("anew() again", x.anew(), 0);
            due.is("the first EVENT", x.event(0, WRITE, 1), 0);
            due.is("FORK can be again", x.event(0, FORK, 2), 1);
            due.is("TAKE can be again", x.event(0, TAKE, 1), 2);
        }
        Watch x = new Watch();
        x.jump(0, 5);
        due.is("no EVENTS", x.anew(), 0);
        due.is("jump is forgotten", x.clock(0, 0, 0), 1);
    }

    private static void promise2Stays() {
        due.sentence("(IMAGES, THE TEXT, THE JOURNAL stay)");
        Watch x = new Watch();
        due.runs(x, "l2(w0;)", 3, -1);
        x.keep(1);
        String kept = Seen.sectionOne(x);
        States.feed(x, "w3;");
        x.anew();
        due.is("letters", x.told(6), 3);
        due.is("entries", x.told(7), 2);
        due.is("journal(1, 0)", x.journal(1, 0), 2);
        due.is("IMAGE 0 was not kept", x.goBack(0), NOT);
        due.is("run()", x.run(), 1);
        due.is("cell(3, 0)", x.cell(3, 0), 0);
        due.is("goBack(1)", x.goBack(1), 3);
        due.yes("IMAGE 1 stays", Seen.sectionOne(x).equals(kept));
    }

    private static void promise3() {
        due.sentence("feed(letter): One letter (a number 0 .. 255) comes behind THE TEXT: how many it has. OUTSIDE, FULL (240).");
        Watch x = new Watch();
        int[] letters = {0, 1, 127, 128, 254, 255};
        for (int i = 0; i < letters.length; i++) {
            due.is("feed(" + letters[i] + ")", x.feed(letters[i]), i + 1);
            due.is("feed(-1)", x.feed(-1), OUTSIDE);
            due.is("feed(256)", x.feed(256), OUTSIDE);
            due.is("told(6)", x.told(6), i + 1);
        }
        Watch y = new Watch();
        for (char letter : new char[] {'r', '0', ';'}) {
            y.feed(letter + 256);
            y.feed(letter - 256);
            y.feed(letter);
        }
        due.is("what was OUTSIDE did not come", y.run(), 1);
        Watch z = new Watch();
        for (int i = 1; i <= 240; i++) {
            due.is("feed", z.feed(i > 237 ? "r3;".charAt(i - 238) : ' '), i);
        }
        due.is("the 241st", z.feed('x'), FULL);
        due.is("OUTSIDE goes ahead of FULL", z.feed(256), OUTSIDE);
        due.is("OUTSIDE goes ahead of FULL", z.feed(-1), OUTSIDE);
        due.is("told(6)", z.told(6), 240);
        due.is("the letters behind THE TEXT", z.run(), 1);
        due.is("behind a run()", z.feed('x'), 1);
    }

    private static void promise4() {
        due.sentence("run(): how many EVENTS came; -10 less the number of its FAULT.");
        due.runs(new Watch(), "", 0, -1);
        due.runs(new Watch(), "r0;", 1, -1);
        due.runs(new Watch(), "l0(r0;)", 3, -1);
        due.runs(new Watch(), ")", -11, 0);
        due.runs(new Watch(), "p2;", -12, 1);
        due.runs(States.withReads(160), "p1;", -13, 1);
        due.runs(new Watch(), "j1;", -14, 1);
        Watch x = States.withReads(100);
        due.runs(x, "r0;r0;", 2, -1);
        due.runs(x, "r0;r0;r0;", 3, -1);
        due.is("told(0)", x.told(0), 105);
        Watch most = new Watch();
        due.runs(most, "l0()".repeat(60), 120, -1);
    }

    private static void promise4Empties() {
        due.sentence("THE TEXT (it is empty then, with a FAULT, too)");
        String[] texts = {"r0;", "x r0;", "r9;r0;", "j1;r0;", "l0(r0;"};
        for (String text : texts) {
            Watch x = new Watch();
            due.run(x, text);
            due.is("told(6)", x.told(6), 0);
            due.is("nothing is left to run", x.run(), 0);
            due.is("no FAULT", x.fault(), NONE);
            due.runs(x, "w1;", 1, -1);
        }
        Watch full = States.withReads(160);
        due.runs(full, "r0;r0;", -13, 1);
        due.is("nothing is left to run", full.run(), 0);
    }

    private static void promise5() {
        due.sentence("fault(): The letter of the FAULT of the latest run(); NONE.");
        Watch x = new Watch();
        due.is("no run() yet", x.fault(), NONE);
        States.feed(x, "x");
        due.is("fed, not run", x.fault(), NONE);
        x.run();
        due.is("letter 0", x.fault(), 0);
        States.feed(x, "r0;)");
        due.is("fed, not run", x.fault(), 0);
        x.run();
        due.is("letter 3", x.fault(), 3);
        x.event(0, READ, 9);
        due.is("a call that is refused is no run()", x.fault(), 3);
        x.run();
        due.is("the latest run() had none", x.fault(), NONE);
        due.runs(new Watch(), "t0(".repeat(80), -11, 240);
    }

    private static void promise6() {
        due.sentence("event(thread, sort, with): its number. UNKNOWN, OUTSIDE (the sort), NOT, FULL, MUCH: a STEP.");
        Watch x = new Watch();
        int[][] made = {{FORK, 1}, {READ, 0}, {WRITE, 0}, {TAKE, 0}, {LEAVE, 0}, {PUT, 0}, {GET, 0}, {WAIT, 1}};
        for (int i = 0; i < made.length; i++) {
            due.is("sort -1", x.event(0, -1, 0), OUTSIDE);
            due.is("sort 8", x.event(0, 8, 0), OUTSIDE);
            due.is("THREAD -1", x.event(-1, made[i][0], made[i][1]), UNKNOWN);
            due.is("THREAD 4", x.event(4, made[i][0], made[i][1]), UNKNOWN);
            due.is("sort " + made[i][0], x.event(0, made[i][0], made[i][1]), i);
        }
        due.is("nothing that was refused came", x.told(0), 8);
        Watch y = new Watch();
        due.is("FORK of THREAD 3", y.event(0, FORK, 3), 0);
        due.is("by THREAD 3", y.event(3, READ, 3), 1);
        due.is("FORK by THREAD 3", y.event(3, FORK, 1), 2);
        due.is("itself for FORK", y.event(3, FORK, 3), UNKNOWN);
        due.is("itself for WAIT", y.event(3, WAIT, 3), UNKNOWN);
        due.is("itself for FORK, though NEW", y.event(2, FORK, 2), UNKNOWN);
        due.is("WAIT for THREAD 0", y.event(3, WAIT, 0), 3);
        Watch z = States.withReads(158);
        due.is("EVENT 158", z.event(0, TAKE, 0), 158);
        due.is("EVENT 159", z.event(0, LEAVE, 0), 159);
        due.is("one too many", z.event(0, TAKE, 0), FULL);
        due.is("NOT goes ahead of FULL", z.event(0, LEAVE, 0), NOT);
        due.is("told(0)", z.told(0), 160);
    }

    private static void promise7() {
        due.sentence("jump(thread, v): The own number in the CLOCK of a THREAD that GOES is v (1 on) more: what it is.");
        for (int thread = 0; thread < 4; thread++) {
            Watch x = new Watch();
            due.run(x, "f1;f2;f3;");
            int own = x.clock(0, thread, thread);
            due.is("v is 0", x.jump(thread, 0), OUTSIDE);
            due.is("v is -1", x.jump(thread, -1), OUTSIDE);
            due.is("v is 1", x.jump(thread, 1), own + 1);
            due.is("v is 9", x.jump(thread, 9), own + 10);
            due.is("the own number", x.clock(0, thread, thread), own + 10);
            due.is("above the greatest by one", x.jump(thread, GREATEST - own - 9), MUCH);
            due.is("v is the greatest", x.jump(thread, GREATEST), MUCH);
            due.is("nothing changed", x.clock(0, thread, thread), own + 10);
            due.is("up to the greatest", x.jump(thread, GREATEST - own - 10), GREATEST);
            due.is("one more", x.jump(thread, 1), MUCH);
            due.is("v is the greatest", x.jump(thread, GREATEST), MUCH);
            due.is("v is 0", x.jump(thread, 0), OUTSIDE);
            due.is("no EVENT", x.told(0), 3);
            for (int other = 0; other < 4; other++) {
                due.yes("others are left", other == thread || x.clock(0, other, other) < 5 && x.clock(0, other, thread) < 5);
            }
        }
        Watch x = States.withReads(160);
        due.is("FULL is no matter", x.jump(0, 1), 2);
        Watch y = new Watch();
        due.is("a NEW one", y.jump(1, 1), NOT);
        y.event(0, FORK, 1);
        due.is("one that GOES", y.jump(1, 1), 2);
        y.event(0, WAIT, 1);
        due.is("one that is DONE", y.jump(1, 1), NOT);
        due.is("THREAD -1", y.jump(-1, 1), UNKNOWN);
        due.is("THREAD 4", y.jump(4, 1), UNKNOWN);
    }

    /** What others, LOCKS, SEEN CELLS, CELLS and EVENTS keep of THREAD 0 stays. */
    private static void promise7OwnNumberAlone() {
        due.sentence("The own number in the CLOCK of a THREAD that GOES is v more");
        Watch x = new Watch();
        due.runs(x, "f1;w0;r1;l0(r0;)p0;p1;t1(g0;r1;w2;)", 11, -1);
        due.is("jump", x.jump(0, 100), 105);
        due.row("clock of 0", Seen.clock(x, 0, 0), 105, 0, 0, 0);
        due.row("clock of 1", Seen.clock(x, 0, 1), 3, 1, 0, 0);
        due.row("clock of LOCK 0", Seen.clock(x, 1, 0), 2, 0, 0, 0);
        due.row("clock of SEEN CELL 0", Seen.clock(x, 2, 0), 3, 0, 0, 0);
        due.row("clock of SEEN CELL 1", Seen.clock(x, 2, 1), 4, 0, 0, 0);
        due.row("CELL 0", Seen.cell(x, 0), 0, 2, 0, 2, 0, 0, NONE, NONE);
        due.row("CELL 1", Seen.cell(x, 1), NONE, 0, 1, 1, 0, 0, NONE, NONE);
        due.is("what an EVENT keeps", x.eventOf(1, 3), 2);
        due.is("an EVENT behind it", x.event(0, WRITE, 2), 11);
        due.is("what that keeps", x.eventOf(11, 3), 105);
        due.is("LAST WRITE", x.cell(2, 1), 105);
    }

    private static void promise8() {
        due.sentence("drift(n, seed): n times (1 .. 40) BY LOTS of a SEED (1 .. 999999): how many EVENTS came. OUTSIDE.");
        int[] ns = {0, 1, 40, 41};
        int[] seeds = {0, 1, 999999, 1000000};
        for (int n : ns) {
            for (int seed : seeds) {
                Watch x = new Watch();
                boolean isIn = n >= 1 && n <= 40 && seed >= 1 && seed <= 999999;
                int answer = x.drift(n, seed);
                due.yes("drift(" + n + ", " + seed + ")", isIn ? answer >= 0 && answer <= n : answer == OUTSIDE);
                due.is("told(0)", x.told(0), Math.max(answer, 0));
            }
        }
        Watch once = new Watch();
        Watch oneByOne = new Watch();
        due.is("drift(40, 7)", once.drift(40, 7), 11);
        for (int i = 0; i < 40; i++) {
            oneByOne.drift(1, 7);
        }
        due.yes("the SEED at first, each time", !Seen.sectionOne(once).equals(Seen.sectionOne(oneByOne)));
    }

    private static void promise9() {
        due.sentence("told(what): 0 EVENTS .. 8 PROMOTIONS of all CELLS. OUTSIDE.");
        Watch x = new Watch();
        due.runs(x, "f1;f2;f3;r0;r1;t1(r0;r1;)t2(r1;w2;)t3(w2;w0;)j1;j2;l0(l1())x", -11, 59);
        x.event(3, TAKE, 2);
        x.event(0, TAKE, 0);
        States.feed(x, "ab");
        due.row("told", new int[] {x.told(0), x.told(1), x.told(2), x.told(3), x.told(4), x.told(5), x.told(6), x.told(7), x.told(8)}, 19, 9, 6, 5, 5, 3, 2, 4, 2);
        due.is("told(-1)", x.told(-1), OUTSIDE);
        due.is("told(9)", x.told(9), OUTSIDE);
        due.is("told(0) of the most", States.withReads(160).told(0), 160);
        Watch y = new Watch();
        for (int i = 0; i < 241; i++) {
            y.feed(' ');
        }
        due.is("told(6) of the most", y.told(6), 240);
        Watch z = new Watch();
        due.runs(z, "l0()".repeat(20), 40, -1);
        due.is("told(7) of the most", z.told(7), 24);
        Watch most = new Watch();
        due.run(most, "f1;f2;f3;");
        for (int e = 3; e < 160; e++) {
            most.event(e % 4, WRITE, 3);
        }
        due.is("told(5) of the most: 40, 39, 39, 39 WRITES, pair by pair", most.told(5), (157 * 157 - 40 * 40 - 3 * 39 * 39) / 2);
        due.is("told(4)", most.told(4), 8);
    }

    private static void promise10() {
        due.sentence("clock(of, k, thread): The number of a THREAD in the CLOCK of a THREAD (of = 0), a LOCK (1), a SEEN CELL (2). UNKNOWN, OUTSIDE (of).");
        Watch x = new Watch();
        x.jump(0, 10);
        due.runs(x, "f3;t3(l2(r0;)p1;)", 5, -1);
        due.row("the last THREAD", Seen.clock(x, 0, 3), 11, 0, 0, 3);
        due.row("the last LOCK", Seen.clock(x, 1, 2), 11, 0, 0, 1);
        due.row("the last SEEN CELL", Seen.clock(x, 2, 1), 11, 0, 0, 2);
        due.row("the first THREAD", Seen.clock(x, 0, 0), 12, 0, 0, 0);
        due.row("the first LOCK", Seen.clock(x, 1, 0), 0, 0, 0, 0);
        due.row("the first SEEN CELL", Seen.clock(x, 2, 0), 0, 0, 0, 0);
        due.is("THREAD 4", x.clock(0, 4, 0), UNKNOWN);
        due.is("LOCK 3", x.clock(1, 3, 0), UNKNOWN);
        due.is("SEEN CELL 2", x.clock(2, 2, 0), UNKNOWN);
        for (int of = 0; of < 3; of++) {
            due.is("k is -1", x.clock(of, -1, 0), UNKNOWN);
            due.is("number of THREAD -1", x.clock(of, 0, -1), UNKNOWN);
            due.is("number of THREAD 4", x.clock(of, 0, 4), UNKNOWN);
        }
        due.is("of is -1", x.clock(-1, 0, 0), OUTSIDE);
        due.is("of is 3", x.clock(3, 0, 0), OUTSIDE);
        due.is("UNKNOWN goes ahead", x.clock(3, 0, 4), UNKNOWN);
        due.is("UNKNOWN goes ahead", x.clock(-1, 0, -1), UNKNOWN);
    }

    private static void promise11() {
        due.sentence("eventOf(e, what): what = 0 the THREAD .. 7 LOCKS that its THREAD held then (a SET; TAKE with it, LEAVE without). UNKNOWN, OUTSIDE.");
        Watch x = new Watch();
        due.is("no EVENTS", x.eventOf(0, 0), UNKNOWN);
        due.runs(x, "f3;t3(l1(l2(w3;)))", 6, -1);
        due.row("the first", Seen.event(x, 0), 0, FORK, 3, 1, 0, 0, 0, 0);
        due.row("TAKE with it", Seen.event(x, 1), 3, TAKE, 1, 1, 0, 0, 1, 2);
        due.row("TAKE with both", Seen.event(x, 2), 3, TAKE, 2, 1, 0, 0, 1, 6);
        due.row("WRITE", Seen.event(x, 3), 3, WRITE, 3, 1, 0, 0, 1, 6);
        due.row("LEAVE without it", Seen.event(x, 4), 3, LEAVE, 2, 1, 0, 0, 1, 2);
        due.row("the last, LEAVE without", Seen.event(x, 5), 3, LEAVE, 1, 1, 0, 0, 2, 0);
        for (int what = -1; what <= 8; what++) {
            due.is("EVENT -1", x.eventOf(-1, what), UNKNOWN);
            due.is("EVENT 6", x.eventOf(6, what), UNKNOWN);
        }
        due.is("what is -1", x.eventOf(5, -1), OUTSIDE);
        due.is("what is 8", x.eventOf(5, 8), OUTSIDE);
        Watch y = States.withReads(160);
        due.is("EVENT 159", y.eventOf(159, 3), 1);
        due.is("EVENT 160", y.eventOf(160, 3), UNKNOWN);
        y.anew();
        due.is("EVENT 0 behind anew()", y.eventOf(0, 0), UNKNOWN);
    }

    private static void promise12() {
        due.sentence("holder(lock): Who holds a LOCK; NONE. UNKNOWN.");
        Watch x = new Watch();
        due.run(x, "f1;f2;f3;");
        for (int lock = 0; lock < 3; lock++) {
            for (int thread = 0; thread < 4; thread++) {
                due.is("nobody", x.holder(lock), NONE);
                x.event(thread, TAKE, lock);
                due.is("holder(" + lock + ")", x.holder(lock), thread);
                x.event(thread, LEAVE, lock);
            }
        }
        due.is("holder(-1)", x.holder(-1), UNKNOWN);
        due.is("holder(3)", x.holder(3), UNKNOWN);
    }

    private static void promise13() {
        due.sentence("journal(i, what): Entry i of THE JOURNAL (0 the latest): what = 0 the LOCK, 1 1 opened, 0 shut; NONE. OUTSIDE (what).");
        Watch x = new Watch();
        for (int what = 0; what < 2; what++) {
            due.is("empty", x.journal(0, what), NONE);
        }
        due.runs(x, "l2(l1())", 4, -1);
        due.row("LOCKS", new int[] {x.journal(0, 0), x.journal(1, 0), x.journal(2, 0), x.journal(3, 0)}, 2, 1, 1, 2);
        due.row("opened, shut", new int[] {x.journal(0, 1), x.journal(1, 1), x.journal(2, 1), x.journal(3, 1)}, 0, 0, 1, 1);
        for (int what = 0; what < 2; what++) {
            due.is("entry 4", x.journal(4, what), NONE);
            due.is("entry 24", x.journal(24, what), NONE);
            due.is("entry -1", x.journal(-1, what), NONE);
        }
        for (int i : new int[] {-1, 0, 3, 4, 24}) {
            due.is("what is -1", x.journal(i, -1), OUTSIDE);
            due.is("what is 2", x.journal(i, 2), OUTSIDE);
        }
        Watch y = new Watch();
        due.runs(y, "l1()".repeat(12), 24, -1);
        due.is("entry 23 of 24", y.journal(23, 0), 1);
        due.is("entry 23 of 24", y.journal(23, 1), 1);
        due.is("entry 24 of 24", y.journal(24, 0), NONE);
    }

    private static void promise14() {
        due.sentence("ahead(e, f): Whether EVENT e is AHEAD of f (1, 0; 0, if f is not later). UNKNOWN.");
        Watch x = new Watch();
        due.is("no EVENTS", x.ahead(0, 1), UNKNOWN);
        due.runs(x, "f1;r0;t1(r0;)", 3, -1);
        due.is("ahead(0, 1)", x.ahead(0, 1), 1);
        due.is("ahead(0, 2)", x.ahead(0, 2), 1);
        due.is("ahead(1, 2)", x.ahead(1, 2), 0);
        due.is("not later", x.ahead(1, 0), 0);
        due.is("not later", x.ahead(2, 0), 0);
        due.is("not later", x.ahead(2, 1), 0);
        for (int e = -1; e <= 3; e++) {
            due.is("one twice", x.ahead(e, e), UNKNOWN);
            due.is("EVENT -1", x.ahead(-1, e), UNKNOWN);
            due.is("EVENT -1", x.ahead(e, -1), UNKNOWN);
            due.is("EVENT 3", x.ahead(3, e), UNKNOWN);
            due.is("EVENT 3", x.ahead(e, 3), UNKNOWN);
        }
        Watch y = States.withReads(160);
        due.is("the first and the last", y.ahead(0, 159), 1);
        due.is("the last and the first", y.ahead(159, 0), 0);
        due.is("one too many", y.ahead(0, 160), UNKNOWN);
        due.is("the last twice", y.ahead(159, 159), UNKNOWN);
    }

    private static void promise15() {
        due.sentence("races(cell, kind): How many RACES of a CELL are of a KIND (0 .. 2), or all (3). UNKNOWN, OUTSIDE.");
        for (int cell = 0; cell < 4; cell++) {
            Watch x = new Watch();
            due.row("none", Seen.races(x, cell), 0, 0, 0, 0);
            String c = cell + ";";
            due.runs(x, "f1;w" + c + "r" + c + "w" + c + "t1(r" + c + "w" + c + ")", 6, -1);
            for (int other = 0; other < 4; other++) {
                due.row("races", Seen.races(x, other), other == cell ? new int[] {2, 2, 1, 5} : new int[4]);
            }
            due.is("KIND -1", x.races(cell, -1), OUTSIDE);
            due.is("KIND 4", x.races(cell, 4), OUTSIDE);
            due.is("CELL -1", x.races(-1, cell), UNKNOWN);
            due.is("CELL 4", x.races(4, cell), UNKNOWN);
            due.is("UNKNOWN goes ahead", x.races(4, 4), UNKNOWN);
            due.is("UNKNOWN goes ahead", x.races(-1, -1), UNKNOWN);
        }
    }

    private static void promise16() {
        due.sentence("race(cell, k, what): RACE k of a CELL (by the later EVENT, then the earlier rising); NONE: not so many. UNKNOWN, OUTSIDE (what, k below 0).");
        Watch x = new Watch();
        due.is("no RACES", x.race(0, 0, 0), NONE);
        due.runs(x, "f1;w3;r3;w3;t1(r3;w3;)r2;t1(w2;)", 8, -1);
        int[][] want = {{1, 4, 1}, {3, 4, 1}, {1, 5, 0}, {2, 5, 2}, {3, 5, 0}, {NONE, NONE, NONE}};
        for (int k = 0; k < want.length; k++) {
            due.row("race(3, " + k + ", ..)", Seen.race(x, 3, k), want[k]);
        }
        due.row("race(2, 0, ..)", Seen.race(x, 2, 0), 6, 7, 2);
        due.row("race(2, 1, ..)", Seen.race(x, 2, 1), NONE, NONE, NONE);
        due.is("k is the greatest", x.race(3, GREATEST, 0), NONE);
        for (int what = 0; what < 3; what++) {
            due.is("k is -1", x.race(3, -1, what), OUTSIDE);
            due.is("k is -2147483648", x.race(3, -2147483648, what), OUTSIDE);
            due.is("CELL -1", x.race(-1, 0, what), UNKNOWN);
            due.is("CELL 4", x.race(4, 0, what), UNKNOWN);
        }
        for (int k : new int[] {-1, 0, 4, 5, GREATEST}) {
            due.is("what is -1", x.race(3, k, -1), OUTSIDE);
            due.is("what is 3", x.race(3, k, 3), OUTSIDE);
            due.is("UNKNOWN goes ahead", x.race(4, k, 3), UNKNOWN);
        }
        due.is("UNKNOWN goes ahead", x.race(4, -1, 0), UNKNOWN);
    }

    private static void promise17() {
        due.sentence("cell(cell, what): 0 the THREAD of LAST WRITE (NONE) .. 6 FIRST: the EVENT (NONE), 7 the KIND (NONE). UNKNOWN, OUTSIDE.");
        for (int cell = 0; cell < 4; cell++) {
            Watch x = new Watch();
            due.row("nothing", Seen.cell(x, cell), NONE, 0, NONE, 0, 0, 0, NONE, NONE);
            due.run(x, "f1;f2;");
            x.jump(2, 6);
            x.event(0, WRITE, cell);
            x.event(0, READ, cell);
            due.row("WRITE and READ", Seen.cell(x, cell), 0, 3, 0, 3, 0, 0, NONE, NONE);
            x.event(2, READ, cell);
            due.row("SHARED: no LAST READ", Seen.cell(x, cell), 0, 3, NONE, 0, 1, 1, 4, 1);
            x.event(2, WRITE, cell);
            due.row("WRITE", Seen.cell(x, cell), 2, 7, NONE, 0, 0, 1, 4, 1);
            due.is("what is -1", x.cell(cell, -1), OUTSIDE);
            due.is("what is 8", x.cell(cell, 8), OUTSIDE);
            due.is("CELL -1", x.cell(-1, cell), UNKNOWN);
            due.is("CELL 4", x.cell(4, cell), UNKNOWN);
        }
        due.is("UNKNOWN goes ahead", new Watch().cell(4, 8), UNKNOWN);
        due.is("UNKNOWN goes ahead", new Watch().cell(-1, -1), UNKNOWN);
    }

    private static void promise18() {
        due.sentence("shared(cell, thread): The number of a THREAD, if a CELL is SHARED; else 0. UNKNOWN.");
        for (int cell = 0; cell < 4; cell++) {
            Watch x = new Watch();
            due.row("not SHARED, nothing", Seen.shared(x, cell), 0, 0, 0, 0);
            due.run(x, "f1;f2;f3;");
            x.event(0, WRITE, cell);
            x.event(0, READ, cell);
            due.row("not SHARED, LAST READ", Seen.shared(x, cell), 0, 0, 0, 0);
            x.event(3, READ, cell);
            due.row("SHARED", Seen.shared(x, cell), 4, 0, 0, 1);
            x.event(0, WRITE, cell);
            due.row("not SHARED again", Seen.shared(x, cell), 0, 0, 0, 0);
            due.is("THREAD -1", x.shared(cell, -1), UNKNOWN);
            due.is("THREAD 4", x.shared(cell, 4), UNKNOWN);
            due.is("CELL -1", x.shared(-1, cell), UNKNOWN);
            due.is("CELL 4", x.shared(4, cell), UNKNOWN);
        }
    }

    private static void promise19() {
        due.sentence("would(thread, cell, write): WOULD: an access by a THREAD. UNKNOWN, NOT: it does not GO.");
        Watch x = new Watch();
        due.runs(x, "f1;f2;w3;r0;j2;", 5, -1);
        due.is("KIND 0", x.would(1, 3, true), 0);
        due.is("KIND 1", x.would(1, 3, false), 1);
        due.is("KIND 2", x.would(1, 0, true), 2);
        due.is("NONE", x.would(1, 0, false), NONE);
        due.is("NONE", x.would(0, 3, true), NONE);
        for (int write = 0; write < 2; write++) {
            due.is("it is DONE", x.would(2, 0, write == 1), NOT);
            due.is("it is NEW", x.would(3, 0, write == 1), NOT);
            due.is("THREAD -1", x.would(-1, 0, write == 1), UNKNOWN);
            due.is("THREAD 4", x.would(4, 0, write == 1), UNKNOWN);
            for (int thread = 0; thread < 4; thread++) {
                due.is("CELL -1", x.would(thread, -1, write == 1), UNKNOWN);
                due.is("CELL 4", x.would(thread, 4, write == 1), UNKNOWN);
            }
        }
        due.is("FULL is no matter", States.withReads(160).would(0, 0, true), NONE);
    }

    private static void promise20() {
        due.sentence("guard(cell): GUARD. UNKNOWN.");
        Watch x = new Watch();
        for (int cell = 0; cell < 4; cell++) {
            due.is("no access", x.guard(cell), 7);
            due.runs(x, "l2(w" + cell + ";)", 3, -1);
            due.is("LOCK 2", x.guard(cell), 4);
            due.runs(x, "r" + cell + ";", 1, -1);
            due.is("none", x.guard(cell), 0);
        }
        due.is("guard(-1)", x.guard(-1), UNKNOWN);
        due.is("guard(4)", x.guard(4), UNKNOWN);
    }

    private static void promise21() {
        due.sentence("keep(i): IMAGE i keeps all of section 1: how many EVENTS. UNKNOWN.");
        for (int i = 0; i < 2; i++) {
            Watch x = new Watch();
            due.is("empty", x.keep(i), 0);
            x.event(0, READ, 0);
            due.is("one", x.keep(i), 1);
            due.is("keep(-1)", x.keep(-1), UNKNOWN);
            due.is("keep(2)", x.keep(2), UNKNOWN);
            x.event(0, READ, 0);
            due.is("the latest keep", x.goBack(i), 1);
            due.is("the other was not", x.goBack(1 - i), NOT);
            due.is("full", States.withReads(160).keep(i), 160);
        }
    }

    private static void promise22() {
        due.sentence("goBack(i): All is as it was kept: how many EVENTS. UNKNOWN, NOT: it was not.");
        for (int i = 0; i < 2; i++) {
            Watch x = States.withReads(3);
            due.is("it was not kept", x.goBack(i), NOT);
            due.is("nothing changed", x.told(0), 3);
            x.keep(i);
            States.fill(x);
            x.keep(1 - i);
            due.is("goBack", x.goBack(i), 3);
            due.is("there is room again", x.event(0, PUT, 1), 3);
            due.is("goBack(-1)", x.goBack(-1), UNKNOWN);
            due.is("goBack(2)", x.goBack(2), UNKNOWN);
            due.is("nothing changed", x.told(0), 4);
            due.is("goBack to a full one", x.goBack(1 - i), 160);
            due.is("it is FULL", x.event(0, GET, 0), FULL);
            due.is("goBack once more", x.goBack(i), 3);
            due.is("PUT is gone", x.clock(2, 1, 0), 0);
            due.is("anew()", x.anew(), 3);
            due.is("goBack behind anew()", x.goBack(i), 3);
        }
    }

    private static void callsUpToTheLast() {
        due.sentence("An object is used for at most 512 calls after it has been made");
        Watch x = new Watch();
        for (int e = 0; e < 160; e++) {
            x.event(0, e % 2, e % 4);
        }
        while (x.left() > 4) {
            x.told(5);
        }
        due.is("call 509", x.jump(0, 1), 2);
        due.is("call 510", x.event(0, PUT, 0), FULL);
        due.is("call 511", x.keep(1), 160);
        due.is("call 512", x.goBack(1), 160);
        Watch y = new Watch();
        while (y.left() > 2) {
            y.jump(0, 4000000);
        }
        due.is("call 511", y.jump(0, GREATEST), MUCH);
        due.is("call 512", y.jump(0, 1), 510 * 4000000 + 2);
    }
}
