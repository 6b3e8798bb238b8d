/** Promises 3, 4, 5 and 13: feed, run, fault, journal. */
public final class TextTest {
    private static final int GREATEST = 2147483647;
    private static final Due due = new Due("TextTest");

    public static void main(String[] args) {
        feeding();
        runsWithoutFault();
        whoIsAtIt();
        lettersThatCannotStand();
        numbersOutOfBounds();
        eventsThatCannotBe();
        whatIsFull();
        fullIsLessThanNot();
        whatCameAheadStays();
        leaveWithoutStep();
        nestedDeeply();
        journalOfRegions();
        journalLosesTheOldest();
        journalRefusals();
        due.end();
    }

    private static void feeding() {
        Watch x = new Watch();
        due.is("feed(-1)", x.feed(-1), RaceWatch.OUTSIDE);
        due.is("feed(256)", x.feed(256), RaceWatch.OUTSIDE);
        due.is("feed(0)", x.feed(0), 1);
        due.is("feed(255)", x.feed(255), 2);
        due.is("told(6)", x.told(6), 2);
        due.is("run()", x.run(), -11);
        due.is("told(6)", x.told(6), 0);
        for (int i = 1; i <= 240; i++) {
            due.is("feed " + i, x.feed(' '), i);
        }
        due.is("feed 241", x.feed(' '), RaceWatch.FULL);
        due.is("feed(256) when it is FULL", x.feed(256), RaceWatch.OUTSIDE);
        due.is("told(6)", x.told(6), 240);
        due.is("run()", x.run(), 0);
        due.is("fault()", x.fault(), RaceWatch.NONE);
        due.is("feed", x.feed('r'), 1);
    }

    private static void runsWithoutFault() {
        Watch x = new Watch();
        due.is("fault() ahead of all runs", x.fault(), RaceWatch.NONE);
        due.runs(x, "", 0, -1);
        due.runs(x, "   ", 0, -1);
        due.runs(x, "r0;w1;p0;g1;f1;", 5, -1);
        int[] sorts = {0, 1, 4, 5, 6};
        int[] withs = {0, 1, 0, 1, 1};
        for (int e = 0; e < 5; e++) {
            due.is("sort of " + e, x.eventOf(e, 1), sorts[e]);
            due.is("with of " + e, x.eventOf(e, 2), withs[e]);
        }
        due.runs(x, "j1;", 1, -1);
        due.is("eventOf(5, 1)", x.eventOf(5, 1), 7);
        due.runs(x, " r 3 ;  l 2 ( w 3 ; ) ", 4, -1);
        due.runs(x, "l0()t0()l1(l2(l0()))", 8, -1);
        due.is("told(3)", x.told(3), 0);
        due.is("told(0)", x.told(0), 18);
        due.is("run()", x.run(), 0);
    }

    private static void whoIsAtIt() {
        Watch x = new Watch();
        due.runs(x, "f1;f2;t1(r0;t2(r0;l0(t1(r1;)r2;)r0;)r0;)r0;", 11, -1);
        int[] threads = {0, 0, 1, 2, 2, 1, 2, 2, 2, 1, 0};
        int[] sorts = {6, 6, 0, 0, 2, 0, 0, 3, 0, 0, 0};
        int[] locks = {0, 0, 0, 0, 1, 0, 1, 0, 0, 0, 0};
        for (int e = 0; e < 11; e++) {
            due.is("thread of " + e, x.eventOf(e, 0), threads[e]);
            due.is("sort of " + e, x.eventOf(e, 1), sorts[e]);
            due.is("locks of " + e, x.eventOf(e, 7), locks[e]);
        }
        due.runs(x, "t1(t0(j1;))r0;", 2, -1);
        due.runs(x, "t2(t0(j2;)r0;)", -14, 11);
        due.is("told(2)", x.told(2), 6);
        due.runs(x, "l0(t0(l1(t0(w0;))))", 5, -1);
        due.is("each run begins with 0", x.eventOf(x.told(0) - 1, 0), 0);
    }

    private static void lettersThatCannotStand() {
        Watch x = new Watch();
        String[] texts = {"x", ";", "(", ")", "0", "r", "r;", "ra", "r)", "r0", "r0)", "r0r", "r00;", "r0;;", "r0;)", "t", "t0",
            "t0;", "t0(", "t0(r0;", "t0(r0", "t0)", "l0", "l0;", "l0(r0;", "l0()))", "R0;", "r0 ", "l0(t0()", "f", "l", "t0(x)", "r-1;",
            "  x", "r 0 ;  y", "t00("};
        int[] faults = {0, 0, 0, 0, 0, 1, 1, 1, 1, 2, 2, 2, 2, 3, 3, 1, 2, 2, 3, 6, 5, 2, 2, 2, 6, 4, 0, 3, 7, 1, 1, 3, 1, 2, 7, 2};
        for (int i = 0; i < texts.length; i++) {
            due.runs(x, texts[i], -11, faults[i]);
            due.is("told(3)", x.told(3), 0);
        }
        due.runs(x, "" + (char) 0, -11, 0);
        due.runs(x, "" + (char) 255, -11, 0);
        due.runs(x, "r" + (char) 9 + "0;", -11, 1);
        due.runs(x, "r0;", 1, -1);
    }

    private static void numbersOutOfBounds() {
        Watch x = new Watch();
        String letters = "rwpgfjtl";
        int[] bounds = {4, 4, 2, 2, 4, 4, 4, 3};
        for (int i = 0; i < 8; i++) {
            for (int number = bounds[i]; number <= 9; number++) {
                due.runs(x, letters.charAt(i) + "" + number + "x", -12, 1);
            }
        }
        due.is("told(0)", x.told(0), 0);
        due.runs(x, "r3;w3;p1;g1;f3;t3(r0;)j3;l2(w0;)", 10, -1);
        due.runs(x, "t9(", -12, 1);
        due.runs(x, "r " + "  7;", -12, 4);
    }

    private static void eventsThatCannotBe() {
        Watch x = new Watch();
        due.runs(x, "f0;", -14, 1);
        due.runs(x, "j0;", -14, 1);
        due.runs(x, "j1;", -14, 1);
        due.runs(x, "t1(", -14, 1);
        due.runs(x, "f1;f 1;", -14, 5);
        due.runs(x, "t1x", -11, 2);
        due.runs(x, "l0(l0(", -14, 4);
        due.runs(x, "l0(t1(l0(", -14, 7);
        due.runs(x, "l0(t1(j0;))", -14, 7);
        due.runs(x, "j1;t1(", -14, 4);
        due.runs(x, "r0x", -11, 2);
        x.event(0, 2, 1);
        due.runs(x, "l1(", -14, 1);
        due.is("a LOCK taken by hand stays held", x.holder(1), 0);
        x.event(0, 3, 1);
        x.event(0, 6, 2);
        x.event(2, 7, 0);
        due.runs(x, "r0;", -14, 1);
        due.runs(x, "t0(", -14, 1);
        due.runs(x, "t2(r0;)", 1, -1);
    }

    /** An object with n EVENTS, all READ of CELL 0 by 0. */
    private static Watch withReads(int n) {
        Watch x = new Watch();
        for (int i = 0; i < n; i++) {
            x.event(0, 0, 0);
        }
        return x;
    }

    private static void whatIsFull() {
        due.runs(withReads(159), "r0;r0;", -13, 4);
        due.runs(withReads(159), "w3;", 1, -1);
        due.runs(withReads(160), "w3;", -13, 1);
        due.runs(withReads(160), "t0()", 0, -1);
        due.runs(withReads(159), "l0()", -13, 1);
        due.runs(withReads(158), "l0()", 2, -1);
        Watch x = withReads(158);
        due.runs(x, "l0(r0;)", -13, 4);
        due.is("told(0)", x.told(0), 160);
        due.is("told(3)", x.told(3), 0);
        due.is("journal(0, 1)", x.journal(0, 1), 0);
        due.is("eventOf(159, 1)", x.eventOf(159, 1), 3);
        due.runs(withReads(157), "l0(r0;)", 3, -1);
        due.runs(withReads(157), "l0(l1())", -13, 4);
        due.runs(withReads(156), "l0(l1())", 4, -1);
        due.runs(withReads(156), "l0(l1(r0;))", -13, 7);
        due.runs(withReads(155), "l0(l1(r0;))", 5, -1);
        due.runs(withReads(154), "l0(l1()r0;r0;)", 6, -1);
        due.runs(withReads(155), "l0(l1()r0;r0;)", -13, 11);
        due.runs(withReads(153), "l0(t0(l1(l2(r0;))))", 7, -1);
    }

    private static void fullIsLessThanNot() {
        due.runs(withReads(160), "r9;", -12, 1);
        due.runs(withReads(160), "j1;", -13, 1);
        due.runs(withReads(160), "t1(", -14, 1);
        due.runs(withReads(160), "rx", -11, 1);
        Watch x = withReads(158);
        due.runs(x, "l0(l0(", -13, 4);
        Watch great = withReads(160);
        great.jump(0, GREATEST - 1);
        due.runs(great, "p0;", -13, 1);
    }

    private static void whatCameAheadStays() {
        Watch x = new Watch();
        due.runs(x, "f1;r0;t1(w2;l2(p1;l1(x", -11, 21);
        due.is("told(0)", x.told(0), 8);
        int[] sorts = {6, 0, 1, 2, 4, 2, 3, 3};
        int[] withs = {1, 0, 2, 2, 1, 1, 1, 2};
        int[] threads = {0, 0, 1, 1, 1, 1, 1, 1};
        for (int e = 0; e < 8; e++) {
            due.is("sort of " + e, x.eventOf(e, 1), sorts[e]);
            due.is("with of " + e, x.eventOf(e, 2), withs[e]);
            due.is("thread of " + e, x.eventOf(e, 0), threads[e]);
        }
        due.runs(x, "l0x", -11, 2);
        due.is("TAKE came at the number, and LEAVE", x.told(0), 10);
        due.runs(x, "r0x", -11, 2);
        due.is("READ came at the number", x.told(0), 11);
        due.runs(x, "l0(t1(l1(t0(l2(", -11, 15);
        int[] left = {2, 1, 0};
        int[] by = {0, 1, 0};
        for (int i = 0; i < 3; i++) {
            due.is("the last opened first", x.eventOf(14 + i, 2), left[i]);
            due.is("by who took it", x.eventOf(14 + i, 0), by[i]);
            due.is("LEAVE", x.eventOf(14 + i, 1), 3);
        }
    }

    private static void leaveWithoutStep() {
        Watch x = new Watch();
        x.jump(0, GREATEST - 2);
        due.runs(x, "l0(r0;)", 3, -1);
        due.is("clock(0, 0, 0)", x.clock(0, 0, 0), GREATEST);
        due.is("clock(1, 0, 0)", x.clock(1, 0, 0), GREATEST - 1);
        due.runs(x, "l0(l1(w1;))", 5, -1);
        due.is("clock(0, 0, 0)", x.clock(0, 0, 0), GREATEST);
        due.is("clock(1, 0, 0)", x.clock(1, 0, 0), GREATEST);
        due.is("clock(1, 1, 0)", x.clock(1, 1, 0), GREATEST);
        due.runs(x, "p0;", -14, 1);
        due.runs(x, "l2(f1;)", -14, 4);
        due.is("holder(2)", x.holder(2), RaceWatch.NONE);
        due.is("clock(1, 2, 0)", x.clock(1, 2, 0), GREATEST);
        due.runs(x, "g0;r0;w0;", 3, -1);
    }

    private static void nestedDeeply() {
        StringBuilder open = new StringBuilder();
        StringBuilder whole = new StringBuilder();
        for (int i = 0; i < 80; i++) {
            open.append("t0(");
        }
        due.runs(new Watch(), open.toString(), -11, 240);
        for (int i = 0; i < 60; i++) {
            whole.append("t0(");
        }
        for (int i = 0; i < 60; i++) {
            whole.append(")");
        }
        due.runs(new Watch(), whole.toString(), 0, -1);
        due.runs(new Watch(), whole.substring(0, 239), -11, 239);
    }

    private static void journalOfRegions() {
        Watch x = new Watch();
        x.event(0, 2, 2);
        x.event(0, 3, 2);
        due.is("by hand there is no REGION", x.told(7), 0);
        due.runs(x, "l1(l0(r0;)x", -11, 10);
        due.is("told(7)", x.told(7), 4);
        int[] locks = {1, 0, 0, 1};
        int[] opened = {0, 0, 1, 1};
        for (int i = 0; i < 4; i++) {
            due.is("journal(" + i + ", 0)", x.journal(i, 0), locks[i]);
            due.is("journal(" + i + ", 1)", x.journal(i, 1), opened[i]);
        }
        due.is("journal(4, 0)", x.journal(4, 0), RaceWatch.NONE);
        due.is("journal(4, 1)", x.journal(4, 1), RaceWatch.NONE);
        due.runs(x, "l2x", -11, 2);
        due.is("opened at the number", x.told(7), 6);
        due.is("journal(1, 0)", x.journal(1, 0), 2);
        due.is("journal(1, 1)", x.journal(1, 1), 1);
        due.is("journal(0, 1)", x.journal(0, 1), 0);
        due.runs(x, "l9(", -12, 1);
        due.is("a REGION that never opened", x.told(7), 6);
    }

    private static void journalLosesTheOldest() {
        Watch x = new Watch();
        due.runs(x, "l2()", 2, -1);
        for (int i = 0; i < 11; i++) {
            due.runs(x, "l1()", 2, -1);
        }
        due.is("told(7)", x.told(7), 24);
        due.is("journal(23, 0)", x.journal(23, 0), 2);
        due.is("journal(23, 1)", x.journal(23, 1), 1);
        due.runs(x, "l0(l1())", 4, -1);
        due.is("told(7)", x.told(7), 24);
        due.is("journal(0, 0)", x.journal(0, 0), 0);
        due.is("journal(3, 0)", x.journal(3, 0), 0);
        due.is("journal(3, 1)", x.journal(3, 1), 1);
        due.is("journal(23, 0)", x.journal(23, 0), 1);
        due.is("journal(24, 0)", x.journal(24, 0), RaceWatch.NONE);
    }

    private static void journalRefusals() {
        Watch x = new Watch();
        due.is("journal(0, 0)", x.journal(0, 0), RaceWatch.NONE);
        due.runs(x, "l2()", 2, -1);
        due.is("journal(0, 2)", x.journal(0, 2), RaceWatch.OUTSIDE);
        due.is("journal(0, -1)", x.journal(0, -1), RaceWatch.OUTSIDE);
        due.is("journal(99, 2)", x.journal(99, 2), RaceWatch.OUTSIDE);
        due.is("journal(-1, 0)", x.journal(-1, 0), RaceWatch.NONE);
        due.is("journal(2147483647, 1)", x.journal(2147483647, 1), RaceWatch.NONE);
        due.is("journal(-2147483648, 1)", x.journal(-2147483648, 1), RaceWatch.NONE);
    }
}
