/** The sentences of section 3 that name a boundary case: WOULD, GUARD, BY LOTS, IMAGES. */
public final class SectionThreeTest {
    private static final int GREATEST = States.GREATEST;
    private static final int NONE = RaceWatch.NONE, NOT = RaceWatch.NOT;
    private static final int READ = 0, WRITE = 1, TAKE = 2, LEAVE = 3, PUT = 4, GET = 5, FORK = 6, WAIT = 7;
    private static final Due due = new Due("SectionThreeTest");

    public static void main(String[] args) {
        askedChangesNothing();
        wouldOfAnEmptyCell();
        wouldByTheLastWrite();
        wouldByTheLastRead();
        wouldIsWhatComes();
        guardWithoutAnAccess();
        guardOfOneAccess();
        guardOfTheOwnThread();
        guardOfEachAccess();
        lotsOfASeed();
        lotsThatCannotCome();
        lotsUpToTheLastEvent();
        imagesKeepSectionOne();
        imagesKeepEachChange();
        imagesKeepTheLastOfAll();
        imagesLeaveTheRest();
        due.end();
    }

    private static void askedChangesNothing() {
        due.sentence("ASKED (nothing changes).");
        Watch x = States.busy();
        Still busy = new Still(due, "busy", x);
        for (int what = 0; what <= 8; what++) {
            sameTwice(busy, x, "told", what);
        }
        for (int number = 0; number < 3; number++) {
            sameTwice(busy, x, "holder", number);
            sameTwice(busy, x, "clock", 0, number, 0);
            sameTwice(busy, x, "clock", 1, number, 0);
            sameTwice(busy, x, "eventOf", number, 3);
            sameTwice(busy, x, "ahead", number, 5);
            sameTwice(busy, x, "journal", number, 0);
        }
        for (int cell = 0; cell < 4; cell++) {
            for (int what = 0; what < 4; what++) {
                sameTwice(busy, x, "cell", cell, what);
                sameTwice(busy, x, "cell", cell, what + 4);
                sameTwice(busy, x, "shared", cell, what);
                sameTwice(busy, x, "races", cell, what);
                sameTwice(busy, x, "would", what / 2, cell, what % 2);
            }
            sameTwice(busy, x, "race", cell, 0, 0);
            sameTwice(busy, x, "guard", cell);
        }
        sameTwice(busy, x, "fault");
    }

    private static void sameTwice(Still state, Watch x, String name, int... with) {
        Watch twin = x.twin();
        int first = twin.call(name, with);
        due.is(name + " again", twin.call(name, with), first);
        state.is(first, name, with);
    }

    private static void wouldOfAnEmptyCell() {
        due.sentence("WOULD: whether, and by which KIND (NONE: not)");
        Watch x = new Watch();
        for (int cell = 0; cell < 4; cell++) {
            due.is("READ of what nobody touched", x.would(0, cell, false), NONE);
            due.is("WRITE of what nobody touched", x.would(0, cell, true), NONE);
        }
    }

    /** WRITE of 0 ahead of its PUT, and behind it; 1 gets that. */
    private static void wouldByTheLastWrite() {
        due.sentence("an access now would RACE by what a CELL keeps");
        Watch x = new Watch();
        due.runs(x, "f1;w0;p0;w1;t1(g0;)", 5, -1);
        due.is("c has as much: READ", x.would(1, 0, false), NONE);
        due.is("c has as much: WRITE", x.would(1, 0, true), NONE);
        due.is("c has one less: READ", x.would(1, 1, false), 1);
        due.is("c has one less: WRITE", x.would(1, 1, true), 0);
        due.is("by the same THREAD: READ", x.would(0, 1, false), NONE);
        due.is("by the same THREAD: WRITE", x.would(0, 1, true), NONE);
        x.event(0, PUT, 0);
        due.is("PUT alone changes nothing for 1", x.would(1, 1, true), 0);
        x.event(1, GET, 0);
        due.is("GET does", x.would(1, 1, true), NONE);
    }

    private static void wouldByTheLastRead() {
        due.sentence("an access now would RACE by what a CELL keeps");
        Watch x = new Watch();
        due.runs(x, "f1;f2;r0;p0;r1;w2;p1;r2;r3;t1(g0;)", 10, -1);
        due.is("c has as much: READ", x.would(1, 0, false), NONE);
        due.is("c has as much: WRITE", x.would(1, 0, true), NONE);
        due.is("c has one less: READ", x.would(1, 1, false), NONE);
        due.is("c has one less: WRITE", x.would(1, 1, true), 2);
        due.is("WRITE and READ of it are not AHEAD: KIND 0", x.would(1, 2, true), 0);
        x.event(1, GET, 1);
        due.is("just READ is not: KIND 2", x.would(1, 2, true), 2);
        due.is("just READ is not: none for READ", x.would(1, 2, false), NONE);
        x.event(1, READ, 3);
        due.is("SHARED", x.cell(3, 4), 1);
        due.is("SHARED, all of others: WRITE", x.would(2, 3, true), 2);
        due.is("SHARED: READ", x.would(2, 3, false), NONE);
        due.is("SHARED, one of another: WRITE", x.would(0, 3, true), 2);
    }

    /** What WOULD tells is what FIRST tells behind the access. */
    private static void wouldIsWhatComes() {
        due.sentence("an access now would RACE by what a CELL keeps");
        for (int seed = 1; seed <= 60; seed++) {
            Watch x = new Watch();
            due.run(x, "f1;f2;f3;");
            x.drift(40, seed * 101);
            for (int thread = 0; thread < 4; thread++) {
                for (int cell = 0; cell < 4; cell++) {
                    for (int write = 0; write < 2; write++) {
                        boolean goes = (x.told(1) >> thread & 1) == 1;
                        int kind = x.twin().would(thread, cell, write == 1);
                        if (!goes) {
                            due.is("it does not GO", kind, NOT);
                        } else if (x.cell(cell, 6) == NONE) {
                            Watch twin = x.twin();
                            int number = twin.event(thread, write, cell);
                            due.is("KIND", twin.cell(cell, 7), kind);
                            due.is("EVENT", twin.cell(cell, 6), kind == NONE ? NONE : number);
                        }
                    }
                }
            }
        }
    }

    private static void guardWithoutAnAccess() {
        due.sentence("all three, if there was none");
        Watch x = new Watch();
        x.event(0, TAKE, 1);
        x.event(0, READ, 0);
        due.is("another CELL was read", x.guard(0), 2);
        for (int cell = 1; cell < 4; cell++) {
            due.is("guard(" + cell + ")", x.guard(cell), 7);
        }
        due.is("an access that is refused is none", x.event(1, WRITE, 3), NOT);
        due.is("guard(3)", x.guard(3), 7);
        x.would(0, 3, true);
        due.is("one that is asked about is none", x.guard(3), 7);
        x.anew();
        due.is("anew", x.guard(0), 7);
    }

    private static void guardOfOneAccess() {
        due.sentence("LOCKS (a SET) that the own THREAD held at each access of it");
        for (int sort = READ; sort <= WRITE; sort++) {
            for (int held = 0; held < 8; held++) {
                Watch x = new Watch();
                for (int lock = 0; lock < 3; lock++) {
                    if ((held >> lock & 1) == 1) {
                        x.event(0, TAKE, lock);
                    }
                }
                x.event(0, sort, 2);
                due.is("guard with " + held + " by sort " + sort, x.guard(2), held);
                for (int lock = 0; lock < 3; lock++) {
                    x.event(0, LEAVE, lock);
                }
                due.is("it stays, when they are left", x.guard(2), held);
            }
        }
    }

    private static void guardOfTheOwnThread() {
        due.sentence("the own THREAD held");
        Watch x = new Watch();
        due.runs(x, "f1;l0(l1(t1(r0;l2(w1;))w2;))", 10, -1);
        due.is("others' LOCKS do not count", x.guard(0), 0);
        due.is("the own one does", x.guard(1), 4);
        due.is("both of 0", x.guard(2), 3);
    }

    private static void guardOfEachAccess() {
        due.sentence("held at each access of it");
        Watch x = new Watch();
        due.runs(x, "f1;l0(l1(l2(w0;)))", 8, -1);
        due.is("all three", x.guard(0), 7);
        due.runs(x, "t1(l1(l2(r0;)))", 5, -1);
        due.is("those at both", x.guard(0), 6);
        due.runs(x, "l0(l1(w0;))", 5, -1);
        due.is("those at all", x.guard(0), 2);
        due.runs(x, "l0(l1(l2(w0;)))", 7, -1);
        due.is("no LOCK comes back", x.guard(0), 2);
        due.runs(x, "l0(r0;)", 3, -1);
        due.is("none is left", x.guard(0), 0);
    }

    /** The lots told once more, in another order: all numbers first, then what they are for. */
    private static int[][] lots(int n, int seed) {
        int[] modulus = {4, 4, 3, 3, 2, 2, 4, 4};
        long[] x = new long[3 * n];
        for (int i = 0; i < x.length; i++) {
            x[i] = (i == 0 ? seed : x[i - 1]) * 16807L % 2147483647L;
        }
        int[][] lots = new int[n][];
        for (int i = 0; i < n; i++) {
            int sort = (int) (x[3 * i + 1] % 8);
            lots[i] = new int[] {(int) (x[3 * i] % 4), sort, (int) (x[3 * i + 2] % modulus[sort])};
        }
        return lots;
    }

    private static void sameAsByHand(Watch x, int n, int seed) {
        Watch byHand = x.twin();
        int came = 0;
        for (int[] lot : lots(n, seed)) {
            came += byHand.event(lot[0], lot[1], lot[2]) >= 0 ? 1 : 0;
        }
        Watch byLots = x.twin();
        due.is("drift(" + n + ", " + seed + ")", byLots.drift(n, seed), came);
        due.yes("drift(" + n + ", " + seed + ") as by hand", Seen.sectionOne(byLots).equals(Seen.sectionOne(byHand)));
    }

    private static void lotsOfASeed() {
        due.sentence("n times X (the SEED at first) becomes what is left of (X times 16807) by 2147483647 for each number wanted");
        due.row("the first of SEED 1", lots(1, 1)[0], 16807 % 4, 282475249 % 8, 1622650073 % 4);
        for (int seed : new int[] {1, 2, 3, 127773, 127774, 500000, 999998, 999999}) {
            for (int n : new int[] {1, 2, 39, 40}) {
                sameAsByHand(new Watch(), n, seed);
                sameAsByHand(States.busy(), n, seed);
            }
        }
        Watch all = new Watch();
        due.run(all, "f1;f2;f3;");
        for (int seed = 5000; seed < 5040; seed++) {
            sameAsByHand(all, 40, seed);
        }
    }

    private static void lotsThatCannotCome() {
        due.sentence("it comes, if it can");
        for (int seed = 1; seed <= 40; seed++) {
            sameAsByHand(States.great(), 40, seed);
        }
        Watch done = new Watch();
        due.run(done, "f1;t1(j0;)");
        for (int seed = 1; seed <= 40; seed++) {
            sameAsByHand(done, 40, seed);
        }
    }

    private static void lotsUpToTheLastEvent() {
        due.sentence("it comes, if it can: not, where it is FULL");
        Still full = new Still(due, "full", States.full());
        for (int seed = 1; seed <= 20; seed++) {
            full.is(0, "drift", 40, seed);
        }
        for (int n = 157; n < 160; n++) {
            Watch x = States.withReads(n);
            int came = 0;
            for (int seed = 1; seed <= 40; seed++) {
                came += x.drift(40, seed);
            }
            due.is("up to the last", came, 160 - n);
            due.is("told(0)", x.told(0), 160);
        }
    }

    private static void imagesKeepSectionOne() {
        due.sentence("IMAGES 0, 1 keep all of section 1");
        for (int i = 0; i < 2; i++) {
            for (int kept = 0; kept < 4; kept++) {
                for (int then = 0; then < 4; then++) {
                    Watch x = make(new Watch(), kept);
                    String before = Seen.sectionOne(x);
                    int count = x.told(0);
                    due.is("keep", x.keep(i), count);
                    x.anew();
                    make(x, then);
                    due.is("goBack to " + kept + " from " + then, x.goBack(i), count);
                    due.yes("all is as it was", Seen.sectionOne(x).equals(before));
                    due.is("the next EVENT", x.event(0, READ, 3), count == 160 ? RaceWatch.FULL : count);
                }
            }
        }
    }

    /** New (0), busy (1), busy and great (2), full (3). IMAGE 1 of the busy ones is not kept. */
    private static Watch make(Watch x, int state) {
        if (state == 3) {
            return States.fill(x);
        }
        if (state > 0) {
            due.run(x, "f1;f2;w0;t1(w0;r1;)t2(r1;p0;)j2;l2(w3;)");
            x.event(1, TAKE, 1);
            x.event(0, READ, 2);
        }
        return state == 2 ? States.makeGreat(x) : x;
    }

    /** Each thing that section 1 has, changed by itself behind keep(). */
    private static void imagesKeepEachChange() {
        due.sentence("IMAGES 0, 1 keep all of section 1");
        int[][] changes = {{0, READ, 0}, {0, READ, 1}, {0, READ, 2}, {0, WRITE, 0}, {0, WRITE, 1}, {0, WRITE, 3}, {1, WRITE, 3}, {1, READ, 3},
            {0, TAKE, 0}, {1, LEAVE, 1}, {0, PUT, 0}, {1, PUT, 1}, {0, GET, 0}, {1, GET, 0}, {0, FORK, 3}, {1, WAIT, 0}};
        for (int[] change : changes) {
            Watch x = States.busy();
            String before = Seen.sectionOne(x);
            x.keep(1);
            due.yes("it comes", x.event(change[0], change[1], change[2]) > 0);
            due.yes("it changes something", !Seen.sectionOne(x).equals(before));
            x.goBack(1);
            due.yes("nothing of sort " + change[1] + " is left", Seen.sectionOne(x).equals(before));
            due.yes("it comes anew", x.event(change[0], change[1], change[2]) > 0);
            Watch once = States.busy();
            once.event(change[0], change[1], change[2]);
            due.yes("as if it came once", Seen.sectionOne(x).equals(Seen.sectionOne(once)));
        }
        Watch x = States.busy();
        String before = Seen.sectionOne(x);
        x.keep(0);
        x.jump(1, 77);
        x.goBack(0);
        due.yes("nothing of jump is left", Seen.sectionOne(x).equals(before));
    }

    /** THREAD 3, LOCK 2, CELL 3, SEEN CELL 1, and EVENT 159. */
    private static void imagesKeepTheLastOfAll() {
        due.sentence("IMAGES 0, 1 keep all of section 1");
        Watch x = new Watch();
        due.run(x, "f1;f2;f3;r3;t1(r3;)t2(r3;)t3(r3;p1;)");
        x.event(3, TAKE, 2);
        x.event(0, TAKE, 0);
        for (int e = x.told(0); e < 160; e++) {
            x.event(3, WRITE, 2);
        }
        String before = Seen.sectionOne(x);
        due.row("shared(3, ..)", Seen.shared(x, 3), 4, 1, 1, 1);
        due.is("keep", x.keep(1), 160);
        x.anew();
        due.run(x, "f2;f1;w2;t2(w2;r2;l1(w1;)p0;)");
        x.event(1, TAKE, 2);
        x.event(2, TAKE, 0);
        due.is("goBack", x.goBack(1), 160);
        due.yes("all is as it was", Seen.sectionOne(x).equals(before));
        due.is("holder(2)", x.holder(2), 3);
        due.row("shared(3, ..)", Seen.shared(x, 3), 4, 1, 1, 1);
        due.row("SEEN CELL 1", Seen.clock(x, 2, 1), 3, 0, 0, 1);
        due.is("the last EVENT", x.eventOf(159, 0), 3);
    }

    private static void imagesLeaveTheRest() {
        due.sentence("(not THE TEXT, its FAULT, THE JOURNAL)");
        Watch x = new Watch();
        due.runs(x, "l0(r0;)r9;", -12, 8);
        States.feed(x, "w2;");
        x.keep(0);
        due.is("THE TEXT goes on behind keep", x.feed('w'), 4);
        due.is("goBack", x.goBack(0), 3);
        due.is("THE TEXT stays", x.told(6), 4);
        due.is("its FAULT stays", x.fault(), 8);
        due.is("THE JOURNAL stays", x.told(7), 2);
        States.feed(x, "3;l1(l2(x");
        due.is("all letters are RUN", x.run(), -11);
        due.is("the FAULT", x.fault(), 12);
        due.is("entries", x.told(7), 6);
        due.is("goBack", x.goBack(0), 3);
        due.is("THE TEXT that was RUN does not come back", x.told(6), 0);
        due.is("the FAULT of the latest run()", x.fault(), 12);
        due.is("entries stay", x.told(7), 6);
        due.is("journal(0, 0)", x.journal(0, 0), 1);
        due.runs(x, "r0;", 1, -1);
        due.is("goBack", x.goBack(0), 3);
        due.is("no FAULT comes back", x.fault(), NONE);
        Watch y = new Watch();
        due.is("IMAGE of no EVENTS", y.keep(0), 0);
        due.runs(y, "l1()", 2, -1);
        due.is("goBack to no EVENTS", y.goBack(0), 0);
        due.is("THE JOURNAL stays", y.told(7), 2);
        due.is("jump", y.jump(0, GREATEST - 1), GREATEST);
    }
}
