/** Promises 1, 2, 6, 7 and 8: a new object, anew, event, jump, drift. */
public final class RunsTest {
    private static final int GREATEST = 2147483647;
    private static final Due due = new Due("RunsTest");

    public static void main(String[] args) {
        aNewObject();
        anewSetsAllAsAtFirst();
        anewLeavesTextJournalAndImages();
        eventsMoveClocks();
        eventsOfLocks();
        eventsOfThreads();
        eventsThatAreRefused();
        orderOfRefusals();
        eventsThatAreTooMany();
        clocksThatAreTooGreat();
        jumps();
        jumpsThatAreRefused();
        drifts();
        driftsThatAreRefused();
        driftStopsAtFull();
        due.end();
    }

    private static void aNewObject() {
        Watch x = new Watch();
        due.is("told(0)", x.told(0), 0);
        due.is("told(1)", x.told(1), 1);
        for (int what = 2; what <= 8; what++) {
            due.is("told(" + what + ")", x.told(what), 0);
        }
        for (int k = 0; k < 4; k++) {
            int[] own = new int[4];
            own[k] = 1;
            due.row("clock(0, " + k + ", ..)", Seen.clock(x, 0, k), own);
        }
        for (int k = 0; k < 3; k++) {
            due.row("clock(1, " + k + ", ..)", Seen.clock(x, 1, k), 0, 0, 0, 0);
            due.is("holder(" + k + ")", x.holder(k), RaceWatch.NONE);
        }
        for (int k = 0; k < 2; k++) {
            due.row("clock(2, " + k + ", ..)", Seen.clock(x, 2, k), 0, 0, 0, 0);
        }
        for (int c = 0; c < 4; c++) {
            due.row("cell(" + c + ", ..)", Seen.cell(x, c), -1, 0, -1, 0, 0, 0, -1, -1);
            due.row("shared(" + c + ", ..)", Seen.shared(x, c), 0, 0, 0, 0);
            due.row("races(" + c + ", ..)", Seen.races(x, c), 0, 0, 0, 0);
            due.is("guard(" + c + ")", x.guard(c), 7);
        }
        due.is("fault()", x.fault(), RaceWatch.NONE);
        due.is("goBack(0)", x.goBack(0), RaceWatch.NOT);
        due.is("goBack(1)", x.goBack(1), RaceWatch.NOT);
    }

    private static void anewSetsAllAsAtFirst() {
        String first = Seen.sectionOne(new Watch());
        Watch x = new Watch();
        due.is("anew() at first", x.anew(), 0);
        due.run(x, "p0;p1;l0()l1()l2()");
        x.drift(40, 3);
        x.drift(40, 4);
        x.event(0, 2, 2);
        due.run(x, "f1;f2;f3;r0;t1(r0;w0;l0(w1;)p0;)t2(w0;g0;r1;)j1;");
        x.jump(0, 1000);
        int count = x.told(0);
        due.is("told(0) is more than 10", count > 10 ? 1 : 0, 1);
        due.is("anew()", x.anew(), count);
        due.is("all is as at first", Seen.sectionOne(x).equals(first) ? 1 : 0, 1);
        due.is("event(0, 1, 0)", x.event(0, 1, 0), 0);
        due.is("anew()", x.anew(), 1);
    }

    private static void anewLeavesTextJournalAndImages() {
        Watch x = new Watch();
        due.runs(x, "l1(r0;)w9", -12, 8);
        x.keep(1);
        x.feed('r');
        x.feed('2');
        due.is("anew()", x.anew(), 3);
        due.is("told(6)", x.told(6), 2);
        due.is("told(7)", x.told(7), 2);
        due.is("journal(0, 0)", x.journal(0, 0), 1);
        due.is("fault() of the latest run()", x.fault(), 8);
        x.feed(';');
        due.is("run()", x.run(), 1);
        due.is("eventOf(0, 2)", x.eventOf(0, 2), 2);
        due.is("goBack(1)", x.goBack(1), 3);
    }

    private static void eventsMoveClocks() {
        Watch x = new Watch();
        due.is("FORK", x.event(0, 6, 2), 0);
        due.row("clock of 0", Seen.clock(x, 0, 0), 2, 0, 0, 0);
        due.row("clock of 2", Seen.clock(x, 0, 2), 1, 0, 1, 0);
        due.is("READ", x.event(2, 0, 3), 1);
        due.is("WRITE", x.event(2, 1, 3), 2);
        due.row("clock of 2", Seen.clock(x, 0, 2), 1, 0, 1, 0);
        due.is("PUT", x.event(2, 4, 1), 3);
        due.row("clock of seen 1", Seen.clock(x, 2, 1), 1, 0, 1, 0);
        due.row("clock of seen 0", Seen.clock(x, 2, 0), 0, 0, 0, 0);
        due.row("clock of 2", Seen.clock(x, 0, 2), 1, 0, 2, 0);
        due.is("PUT", x.event(0, 4, 1), 4);
        due.row("clock of seen 1", Seen.clock(x, 2, 1), 2, 0, 1, 0);
        due.row("clock of 0", Seen.clock(x, 0, 0), 3, 0, 0, 0);
        due.is("GET", x.event(2, 5, 1), 5);
        due.row("clock of 2", Seen.clock(x, 0, 2), 2, 0, 2, 0);
        due.row("clock of seen 1", Seen.clock(x, 2, 1), 2, 0, 1, 0);
        due.is("GET of what nobody put to", x.event(2, 5, 0), 6);
        due.row("clock of 2", Seen.clock(x, 0, 2), 2, 0, 2, 0);
        due.is("WAIT", x.event(0, 7, 2), 7);
        due.row("clock of 0", Seen.clock(x, 0, 0), 3, 0, 2, 0);
        due.row("clock of 2", Seen.clock(x, 0, 2), 2, 0, 2, 0);
        due.is("told(1)", x.told(1), 1);
        due.is("told(2)", x.told(2), 4);
    }

    private static void eventsOfLocks() {
        Watch x = new Watch();
        x.event(0, 6, 1);
        due.is("TAKE", x.event(0, 2, 1), 1);
        due.is("holder(1)", x.holder(1), 0);
        due.is("TAKE by another", x.event(1, 2, 1), RaceWatch.NOT);
        due.is("TAKE again", x.event(0, 2, 1), RaceWatch.NOT);
        due.is("LEAVE by another", x.event(1, 3, 1), RaceWatch.NOT);
        due.is("LEAVE of one that nobody holds", x.event(0, 3, 0), RaceWatch.NOT);
        due.is("LEAVE", x.event(0, 3, 1), 2);
        due.is("holder(1)", x.holder(1), RaceWatch.NONE);
        due.row("clock of lock 1", Seen.clock(x, 1, 1), 2, 0, 0, 0);
        due.row("clock of 0", Seen.clock(x, 0, 0), 3, 0, 0, 0);
        due.is("TAKE", x.event(1, 2, 1), 3);
        due.row("clock of 1", Seen.clock(x, 0, 1), 2, 1, 0, 0);
        x.jump(1, 5);
        due.is("LEAVE", x.event(1, 3, 1), 4);
        due.row("clock of lock 1", Seen.clock(x, 1, 1), 2, 6, 0, 0);
        x.event(0, 2, 0);
        x.event(0, 3, 0);
        due.is("a LOCK that was left is free", x.event(0, 2, 0), 7);
        due.row("clock of lock 0, not joined but set", Seen.clock(x, 1, 0), 3, 0, 0, 0);
    }

    private static void eventsOfThreads() {
        Watch x = new Watch();
        due.is("READ by a NEW one", x.event(1, 0, 0), RaceWatch.NOT);
        due.is("WAIT for a NEW one", x.event(0, 7, 1), RaceWatch.NOT);
        x.event(0, 6, 1);
        due.is("FORK again", x.event(0, 6, 1), RaceWatch.NOT);
        x.event(1, 6, 3);
        due.row("clock of 3", Seen.clock(x, 0, 3), 1, 1, 0, 1);
        due.row("clock of 1", Seen.clock(x, 0, 1), 1, 2, 0, 0);
        x.event(1, 2, 2);
        due.is("WAIT for one that holds a LOCK", x.event(3, 7, 1), RaceWatch.NOT);
        due.is("WAIT by one that holds a LOCK", x.event(1, 7, 3), 3);
        due.is("WAIT for one that is DONE", x.event(0, 7, 3), RaceWatch.NOT);
        due.is("READ by one that is DONE", x.event(3, 0, 0), RaceWatch.NOT);
        due.is("FORK of one that is DONE", x.event(0, 6, 3), RaceWatch.NOT);
        x.event(1, 3, 2);
        due.is("WAIT by another than who forked, for 0", x.event(1, 7, 0), 5);
        due.is("told(1)", x.told(1), 2);
        due.is("told(2)", x.told(2), 9);
    }

    private static void refused(Watch x, int want, int thread, int sort, int with) {
        String before = Seen.all(x);
        due.is("event(" + thread + ", " + sort + ", " + with + ")", x.event(thread, sort, with), want);
        due.is("nothing changed", Seen.all(x).equals(before) ? 1 : 0, 1);
    }

    private static void eventsThatAreRefused() {
        Watch x = new Watch();
        due.run(x, "f1;w0;t1(w0;l1(r1;)p0;)");
        int[] bounds = {4, 4, 3, 3, 2, 2, 4, 4};
        int[] far = {-2147483648, -1, 2147483647};
        for (int sort = 0; sort < 8; sort++) {
            refused(x, RaceWatch.UNKNOWN, -1, sort, 0);
            refused(x, RaceWatch.UNKNOWN, 4, sort, 0);
            refused(x, RaceWatch.UNKNOWN, 0, sort, bounds[sort]);
            for (int with : far) {
                refused(x, RaceWatch.UNKNOWN, 0, sort, with);
            }
        }
        for (int sort : new int[] {-2147483648, -1, 8, 2147483647}) {
            refused(x, RaceWatch.OUTSIDE, 0, sort, 0);
            refused(x, RaceWatch.OUTSIDE, 2, sort, 0);
            refused(x, RaceWatch.UNKNOWN, 4, sort, 0);
        }
        for (int thread = 0; thread < 4; thread++) {
            refused(x, RaceWatch.UNKNOWN, thread, 6, thread);
            refused(x, RaceWatch.UNKNOWN, thread, 7, thread);
        }
        refused(x, RaceWatch.NOT, 2, 0, 0);
        refused(x, RaceWatch.NOT, 0, 6, 1);
    }

    private static void orderOfRefusals() {
        Watch x = new Watch();
        x.event(0, 6, 1);
        x.jump(0, GREATEST - 2);
        for (int i = x.told(0); i < 160; i++) {
            x.event(0, 0, 0);
        }
        due.is("told(0)", x.told(0), 160);
        refused(x, RaceWatch.UNKNOWN, 0, 4, 2);
        refused(x, RaceWatch.OUTSIDE, 0, 8, 0);
        refused(x, RaceWatch.NOT, 0, 3, 0);
        refused(x, RaceWatch.NOT, 2, 0, 0);
        refused(x, RaceWatch.FULL, 0, 4, 0);
        refused(x, RaceWatch.FULL, 0, 0, 0);
    }

    private static void eventsThatAreTooMany() {
        Watch x = new Watch();
        for (int e = 0; e < 160; e++) {
            due.is("event " + e, x.event(0, e % 2, e % 4), e);
        }
        refused(x, RaceWatch.FULL, 0, 0, 0);
        refused(x, RaceWatch.FULL, 0, 6, 1);
        due.is("jump goes on", x.jump(0, 1), 2);
        due.is("anew()", x.anew(), 160);
        due.is("event", x.event(0, 0, 0), 0);
    }

    private static void clocksThatAreTooGreat() {
        Watch x = new Watch();
        x.event(0, 6, 1);
        x.event(0, 2, 0);
        x.jump(0, GREATEST - 3);
        due.is("PUT up to the greatest", x.event(0, 4, 0), 2);
        due.is("clock(0, 0, 0)", x.clock(0, 0, 0), GREATEST);
        due.is("clock(2, 0, 0)", x.clock(2, 0, 0), GREATEST - 1);
        refused(x, RaceWatch.MUCH, 0, 3, 0);
        refused(x, RaceWatch.MUCH, 0, 4, 0);
        refused(x, RaceWatch.MUCH, 0, 6, 2);
        due.is("READ", x.event(0, 0, 0), 3);
        due.is("WRITE", x.event(0, 1, 0), 4);
        due.is("TAKE", x.event(0, 2, 1), 5);
        due.is("GET", x.event(0, 5, 0), 6);
        due.is("WAIT", x.event(0, 7, 1), 7);
        due.is("cell(0, 1)", x.cell(0, 1), GREATEST);
    }

    private static void jumps() {
        Watch x = new Watch();
        due.is("jump(0, 1)", x.jump(0, 1), 2);
        due.is("jump(0, 40)", x.jump(0, 40), 42);
        due.row("clock of 0", Seen.clock(x, 0, 0), 42, 0, 0, 0);
        due.is("no EVENT", x.told(0), 0);
        due.is("up to the greatest", x.jump(0, GREATEST - 42), GREATEST);
        due.is("one more", x.jump(0, 1), RaceWatch.MUCH);
        due.is("clock(0, 0, 0)", x.clock(0, 0, 0), GREATEST);
    }

    private static void jumpsThatAreRefused() {
        Watch x = new Watch();
        String first = Seen.all(x);
        due.is("jump(-1, 1)", x.jump(-1, 1), RaceWatch.UNKNOWN);
        due.is("jump(4, 0)", x.jump(4, 0), RaceWatch.UNKNOWN);
        due.is("jump(0, 0)", x.jump(0, 0), RaceWatch.OUTSIDE);
        due.is("jump(0, -2147483648)", x.jump(0, -2147483648), RaceWatch.OUTSIDE);
        due.is("jump(1, 0)", x.jump(1, 0), RaceWatch.OUTSIDE);
        due.is("jump(1, 1)", x.jump(1, 1), RaceWatch.NOT);
        due.is("jump(1, 2147483647)", x.jump(1, GREATEST), RaceWatch.NOT);
        due.is("jump(0, 2147483647)", x.jump(0, GREATEST), RaceWatch.MUCH);
        due.is("nothing changed", Seen.all(x).equals(first) ? 1 : 0, 1);
        x.event(0, 6, 1);
        x.event(0, 7, 1);
        due.is("jump of one that is DONE", x.jump(1, 1), RaceWatch.NOT);
    }

    private static void drifts() {
        Watch x = new Watch();
        Watch byHand = new Watch();
        long lot = 0;
        for (int seed = 1; seed <= 12; seed++) {
            lot = seed * 83333L;
            int came = 0;
            for (int i = 0; i < 9; i++) {
                lot = lot * 16807 % 2147483647;
                int thread = (int) (lot % 4);
                lot = lot * 16807 % 2147483647;
                int sort = (int) (lot % 8);
                lot = lot * 16807 % 2147483647;
                int with = (int) (lot % (sort == 2 || sort == 3 ? 3 : sort == 4 || sort == 5 ? 2 : 4));
                came += byHand.event(thread, sort, with) >= 0 ? 1 : 0;
            }
            due.is("drift(9, " + seed * 83333 + ")", x.drift(9, seed * 83333), came);
        }
        due.is("all as by hand", Seen.all(x).equals(Seen.all(byHand)) ? 1 : 0, 1);
        Watch known = new Watch();
        due.is("drift(40, 7)", known.drift(40, 7), 11);
        due.is("drift(40, 99)", known.drift(40, 99), 12);
    }

    private static void driftsThatAreRefused() {
        Watch x = new Watch();
        String first = Seen.all(x);
        int[][] wrong = {{0, 1}, {41, 1}, {-1, 1}, {1, 0}, {1, 1000000}, {1, -7}, {2147483647, 2147483647}};
        for (int[] pair : wrong) {
            due.is("drift(" + pair[0] + ", " + pair[1] + ")", x.drift(pair[0], pair[1]), RaceWatch.OUTSIDE);
        }
        due.is("nothing changed", Seen.all(x).equals(first) ? 1 : 0, 1);
        due.is("drift(1, 999999) is not refused", x.drift(1, 999999) >= 0 ? 1 : 0, 1);
        due.is("drift(40, 1) is not refused", x.drift(40, 1) >= 0 ? 1 : 0, 1);
    }

    private static void driftStopsAtFull() {
        Watch x = new Watch();
        for (int i = 0; i < 158; i++) {
            x.event(0, 0, 0);
        }
        int came = 0;
        for (int seed = 1; seed <= 60; seed++) {
            came += x.drift(40, seed);
        }
        due.is("room for two", came, 2);
        due.is("told(0)", x.told(0), 160);
    }
}
