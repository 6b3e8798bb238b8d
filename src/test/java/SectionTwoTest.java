/** The sentences of section 2 that name a boundary case: THE TEXT, its FAULTS, REGIONS, THE JOURNAL. */
public final class SectionTwoTest {
    private static final int GREATEST = States.GREATEST;
    private static final int NONE = RaceWatch.NONE, FULL = RaceWatch.FULL, MUCH = RaceWatch.MUCH;
    private static final int READ = 0, WRITE = 1, TAKE = 2, LEAVE = 3, PUT = 4, GET = 5, FORK = 6, WAIT = 7;
    private static final Due due = new Due("SectionTwoTest");

    public static void main(String[] args) {
        textOf240Letters();
        eachItem();
        whoIsAtIt();
        regionsByWhoTookIt();
        numbersOfOneFigure();
        blanksAnywhere();
        firstLetterWithAFault();
        theEndAtTheLength();
        lettersThatCanStand();
        bracketsTooMany();
        numbersInTheirBounds();
        fullWithoutRegions();
        fullBehindTheEvent();
        fullBehindTheLeaveOfATake();
        roomComesBack();
        locksByHandNeedNoRoom();
        notInAText();
        muchInAText();
        threadsThatDoNotGo();
        refusedInATextChangesNothing();
        theLeastOfTheFaults();
        leaveMakesNoStep();
        whatCameAheadStays();
        takeComesAtTheNumber();
        regionsAreShutByEachFault();
        locksByHandStay();
        journalOfRegions();
        journalOf24();
        due.end();
    }

    private static String times(String text, int n) {
        return text.repeat(n);
    }

    private static void textOf240Letters() {
        due.sentence("A RUN is told in a text (240 letters at most)");
        Watch x = new Watch();
        String text = times("r0;", 80);
        for (int i = 0; i < 240; i++) {
            due.is("feed", x.feed(text.charAt(i)), i + 1);
        }
        due.is("the first letter too many", x.feed('x'), FULL);
        due.is("told(6)", x.told(6), 240);
        due.is("all 240 are RUN, no other", x.run(), 80);
        due.is("no FAULT", x.fault(), NONE);
        due.is("there is room again", x.feed('r'), 1);
        due.runs(new Watch(), times("r0;", 79) + "  x", -11, 239);
        due.runs(new Watch(), times("r0;", 79) + " r0", -11, 240);
        due.runs(new Watch(), times(" ", 240), 0, -1);
        due.runs(new Watch(), times("t0(", 80), -11, 240);
        due.runs(new Watch(), times("t0(", 60) + times(")", 60), 0, -1);
        due.runs(new Watch(), times("t0(", 60) + times(")", 59), -11, 239);
        due.runs(new Watch(), times("t0(", 59) + times(")", 60), -11, 236);
        due.runs(new Watch(), times("l0()", 60), 120, -1);
        due.runs(new Watch(), "", 0, -1);
    }

    private static void eachItem() {
        due.sentence("'r' C ';' READ, 'w' C ';' WRITE, 'p' V ';' PUT, 'g' V ';' GET, 'f' T ';' FORK, 'j' T ';' WAIT, 'l' L '(' items ')'");
        String[] texts = {"r2;", "w3;", "p1;", "g1;", "f2;", "j2;", "l2()"};
        int[][] events = {{READ, 2}, {WRITE, 3}, {PUT, 1}, {GET, 1}, {FORK, 2}, {WAIT, 2}, {TAKE, 2}};
        Watch x = new Watch();
        for (int i = 0; i < texts.length; i++) {
            due.runs(x, texts[i], i < 6 ? 1 : 2, -1);
            due.is("thread of " + texts[i], x.eventOf(i, 0), 0);
            due.is("sort of " + texts[i], x.eventOf(i, 1), events[i][0]);
            due.is("number of " + texts[i], x.eventOf(i, 2), events[i][1]);
        }
        due.is("sort of ')'", x.eventOf(7, 1), LEAVE);
        due.is("number of ')'", x.eventOf(7, 2), 2);
        due.runs(x, "t0()", 0, -1);
        due.is("'t' is no EVENT", x.told(0), 8);
    }

    private static void whoIsAtIt() {
        due.sentence("by the THREAD that is at it (0 at first); 't' T '(' items ')': THREAD T is at it for these");
        Watch x = new Watch();
        due.runs(x, "f1;f2;f3;r0;t3(r0;t2(r0;t1(r0;t0(r0;)r0;)r0;)r0;)r0;", 12, -1);
        int[] threads = {0, 0, 0, 0, 3, 2, 1, 0, 1, 2, 3, 0};
        for (int e = 0; e < 12; e++) {
            due.is("thread of " + e, x.eventOf(e, 0), threads[e]);
        }
        due.runs(x, "t3(x", -11, 3);
        due.runs(x, "r1;", 1, -1);
        due.is("0 at first, behind a FAULT too", x.eventOf(12, 0), 0);
    }

    private static void regionsByWhoTookIt() {
        due.sentence("a REGION: TAKE of L, the items, LEAVE of L (by the THREAD that took it)");
        Watch x = new Watch();
        due.runs(x, "f1;t1(l0(t0(l1(t1(r0;))r0;)r0;)r0;)", 9, -1);
        int[][] want = {{0, FORK, 1}, {1, TAKE, 0}, {0, TAKE, 1}, {1, READ, 0}, {0, LEAVE, 1}, {0, READ, 0}, {1, READ, 0}, {1, LEAVE, 0}, {1, READ, 0}};
        for (int e = 0; e < want.length; e++) {
            due.row("EVENT " + e, new int[] {x.eventOf(e, 0), x.eventOf(e, 1), x.eventOf(e, 2)}, want[e]);
        }
    }

    private static void numbersOfOneFigure() {
        due.sentence("NUMBERS have one figure");
        for (String item : new String[] {"r", "w", "p", "g", "f", "l", "t"}) {
            Watch x = new Watch();
            due.runs(x, (item.equals("f") ? "f1" : item + "0") + "0", -11, 2);
        }
        due.runs(new Watch(), "r01;", -11, 2);
        due.runs(new Watch(), "r;", -11, 1);
        due.runs(new Watch(), "t(", -11, 1);
    }

    private static void blanksAnywhere() {
        due.sentence("blanks (32) may stand anywhere");
        due.runs(new Watch(), " ", 0, -1);
        String text = "f1;t1(l0(w0;))j1;";
        due.runs(new Watch(), text, 5, -1);
        for (int at = 0; at <= text.length(); at++) {
            due.runs(new Watch(), text.substring(0, at) + " " + text.substring(at), 5, -1);
            due.runs(new Watch(), text.substring(0, at) + "   " + text.substring(at), 5, -1);
            for (char other : new char[] {0, 9, 10, 13, 31, 33, 160}) {
                due.runs(new Watch(), text.substring(0, at) + other + text.substring(at), -11, at);
            }
        }
        due.runs(new Watch(), " f 1 ; t 1 ( l 0 ( w 0 ; ) ) j 1 ; ", 5, -1);
        due.runs(new Watch(), "  r  9 ;", -12, 5);
    }

    private static void firstLetterWithAFault() {
        due.sentence("FAULTS, at the first letter that has one");
        due.runs(new Watch(), "r9;x", -12, 1);
        due.runs(new Watch(), "x;r9;", -11, 0);
        due.runs(new Watch(), "j1x", -14, 1);
        due.runs(new Watch(), "r0;j1;r9;", -14, 4);
        due.runs(new Watch(), "r0;r9;j1;", -12, 4);
        due.runs(States.withReads(159), "r0;r0;r9;x", -13, 4);
        due.runs(States.withReads(159), "r0;r9;r0;x", -12, 4);
        due.runs(States.withReads(160), "r0x", -13, 1);
        due.runs(new Watch(), "l0(l0x", -14, 4);
    }

    private static void theEndAtTheLength() {
        due.sentence("(the end at the text's length)");
        String[] texts = {"r", "r0", "t", "t0", "t0(", "t0(r0;", "t0(r", "t0(r0", "l", "l0", "l0(", "l0(r0;", "l0(t0()", "t0(l0()", "w", "p", "g", "f", "j", "f1"};
        for (String text : texts) {
            due.runs(new Watch(), text, -11, text.length());
            due.runs(new Watch(), text + "  ", -11, text.length() + 2);
        }
    }

    /** Each letter there is, at each place where another kind of letter is due. */
    private static void lettersThatCanStand() {
        due.sentence("1 it cannot stand there");
        String[] ahead = {"", "r0;", "t0()", "t0(", "l0(", "r", "l", "t", "r0", "l0", "t0"};
        String[] fitting = {"rwpgfjlt ", "rwpgfjlt ", "rwpgfjlt ", "rwpgfjlt )", "rwpgfjlt )", "0123456789 ", "0123456789 ", "0123456789 ", "; ", "( ", "( "};
        for (int i = 0; i < ahead.length; i++) {
            for (int letter = 0; letter < 256; letter++) {
                if (fitting[i].indexOf(letter) < 0) {
                    due.runs(new Watch(), ahead[i] + (char) letter, -11, ahead[i].length());
                } else {
                    Watch x = new Watch();
                    boolean isFaultOne = due.run(x, ahead[i] + (char) letter) == -11;
                    due.yes("\"" + ahead[i] + (char) letter + "\" has no FAULT 1 at its last letter", !isFaultOne || x.fault() > ahead[i].length());
                }
            }
        }
    }

    private static void bracketsTooMany() {
        due.sentence("(a ')' too many, the end within '(' too)");
        due.runs(new Watch(), ")", -11, 0);
        due.runs(new Watch(), "r0;)", -11, 3);
        due.runs(new Watch(), "l0()", 2, -1);
        due.runs(new Watch(), "l0())", -11, 4);
        due.runs(new Watch(), "t0())", -11, 4);
        due.runs(new Watch(), "l0(t0()))", -11, 8);
        due.runs(new Watch(), "l0(t0())", 2, -1);
        due.runs(new Watch(), "l0(t0()", -11, 7);
        due.runs(new Watch(), "l0(", -11, 3);
        due.runs(new Watch(), "t0(", -11, 3);
        due.runs(new Watch(), "r0)", -11, 2);
        due.runs(new Watch(), "t0(r0)", -11, 5);
        due.runs(new Watch(), "t0)", -11, 2);
        due.runs(new Watch(), "r)", -11, 1);
    }

    private static void numbersInTheirBounds() {
        due.sentence("2 a NUMBER out of its bounds (T 0 .. 3, L 0 .. 2, C 0 .. 3, V 0, 1)");
        String items = "rwpgfjtl";
        int[] last = {3, 3, 1, 1, 3, 3, 3, 2};
        for (int i = 0; i < 8; i++) {
            char item = items.charAt(i);
            for (int number = 0; number <= 9; number++) {
                Watch x = new Watch();
                x.event(0, FORK, 1);
                x.event(0, FORK, 2);
                x.event(0, FORK, 3);
                x.event(0, WAIT, 3);
                String text = "" + item + number + (item == 't' || item == 'l' ? "()" : ";");
                if (number > last[i]) {
                    due.runs(x, text, -12, 1);
                    due.is("nothing came", x.told(0), 4);
                } else if (item == 'f' || item == 'j' && number % 3 == 0 || item == 't' && number == 3) {
                    due.runs(x, text, -14, 1);
                } else {
                    due.runs(x, text, item == 't' ? 0 : item == 'l' ? 2 : 1, -1);
                }
            }
        }
        Watch x = new Watch();
        due.runs(x, "f3;t3(r3;)", 2, -1);
    }

    private static void fullWithoutRegions() {
        due.sentence("3 an EVENT that is refused as FULL (at the number)");
        for (String item : new String[] {"r3;", "w3;", "p1;", "g1;", "f3;", "j2;"}) {
            for (int n = 159; n <= 160; n++) {
                Watch x = new Watch();
                x.event(0, FORK, 2);
                for (int e = 1; e < n; e++) {
                    x.event(0, READ, 0);
                }
                due.runs(x, " " + item, n == 159 ? 1 : -13, n == 159 ? -1 : 2);
                due.is("told(0)", x.told(0), 160);
            }
        }
        due.runs(States.withReads(160), "t0()", 0, -1);
        due.runs(States.withReads(160), "", 0, -1);
    }

    /** With so many REGIONS open as there are LOCKS, and with less. */
    private static void fullBehindTheEvent() {
        due.sentence("it is FULL, too, if behind the EVENT there would not be room for LEAVE of all REGIONS that are open");
        String[] opens = {"", "l0(", "l0(l1(", "l0(l1(l2("};
        for (int open = 0; open <= 3; open++) {
            String text = opens[open] + "w1;" + times(")", open);
            Watch x = States.withReads(160 - 2 * open - 1);
            due.runs(x, text, 2 * open + 1, -1);
            due.is("told(0)", x.told(0), 160);
            Watch y = States.withReads(160 - 2 * open);
            due.runs(y, text, -13, 3 * open + 1);
            due.is("REGIONS were shut, up to the last EVENT", y.told(0), 160);
            due.is("no LOCK is held", y.told(3), 0);
            due.is("entries", y.told(7), 2 * open);
            due.is("no WRITE came", y.cell(1, 0), NONE);
        }
        due.runs(States.withReads(155), "l0(t0(l1(t0(r0;))))", 5, -1);
        due.runs(States.withReads(156), "l0(t0(l1(t0(r0;))))", -13, 13);
    }

    private static void fullBehindTheLeaveOfATake() {
        due.sentence("and the LEAVE of a TAKE");
        String[] opens = {"l2(", "l0(l2(", "l0(l1(l2("};
        for (int open = 1; open <= 3; open++) {
            String text = opens[open - 1] + times(")", open);
            Watch x = States.withReads(160 - 2 * open);
            due.runs(x, text, 2 * open, -1);
            due.is("told(0)", x.told(0), 160);
            Watch y = States.withReads(160 - 2 * open + 1);
            due.runs(y, text, -13, 3 * open - 2);
            due.is("one EVENT less than there is room for", y.told(0), 159);
            due.is("the last REGION was not opened", y.told(7), 2 * open - 2);
            due.is("nobody held it", y.holder(2), NONE);
            due.is("its CLOCK", y.clock(1, 2, 0), 0);
        }
        due.runs(States.withReads(160), "l0()", -13, 1);
    }

    private static void roomComesBack() {
        due.sentence("all REGIONS that are open");
        due.runs(States.withReads(156), "l0(r0;)r0;", 4, -1);
        due.runs(States.withReads(157), "l0(r0;)r0;", -13, 8);
        due.runs(States.withReads(153), "l0(l1(r0;)r0;)r0;", 7, -1);
        due.runs(States.withReads(154), "l0(l1(r0;)r0;)r0;", -13, 15);
        due.runs(States.withReads(155), "l0(l1(r0;)r0;)r0;", -13, 11);
        Watch x = States.withReads(158);
        due.runs(x, "l0(x", -11, 3);
        due.is("a FAULT shuts it", x.told(0), 160);
        Watch y = States.withReads(156);
        due.runs(y, "l0(l1(x", -11, 6);
        y.anew();
        due.runs(y, "r0;", 1, -1);
    }

    private static void locksByHandNeedNoRoom() {
        due.sentence("REGIONS that are open: a LOCK that was taken by hand is none");
        Watch x = States.withReads(156);
        x.event(0, TAKE, 0);
        x.event(0, TAKE, 1);
        due.runs(x, "r0;r0;", 2, -1);
        due.is("told(0)", x.told(0), 160);
        due.is("they stay held", x.told(3), 3);
    }

    private static void notInAText() {
        due.sentence("4 one that cannot be now (NOT; at the number)");
        Watch x = new Watch();
        due.runs(x, "f1;f2;f3;t2(j3;)", 4, -1);
        x.event(1, TAKE, 1);
        int count = x.told(0);
        String[] texts = {"l1()", "f0;", "f1;", "f3;", "j0;", "j1;", "j3;", "t1(l1())", "t1(j1;)", "t1(f1;)"};
        int[] faults = {1, 1, 1, 1, 1, 1, 1, 4, 4, 4};
        for (int i = 0; i < texts.length; i++) {
            due.runs(x, texts[i], -14, faults[i]);
            due.is("nothing came", x.told(0), count);
        }
        due.runs(x, "l0(l0())", -14, 4);
        due.runs(x, "l 0 ( t 1 ( l 0 ( ) ) )", -14, 14);
        due.runs(x, "l0(t1(j0;))", -14, 7);
        due.runs(x, "l0(t0(j2;t2(r0;)))", -14, 10);
        due.is("told(2)", x.told(2), 12);
    }

    private static void muchInAText() {
        due.sentence("4 one that cannot be now (MUCH; at the number)");
        for (String item : new String[] {"p0;", "p1;", "f1;", "f3;"}) {
            Watch x = new Watch();
            x.jump(0, GREATEST - 2);
            due.runs(x, item, 1, -1);
            due.is("up to the greatest", x.clock(0, 0, 0), GREATEST);
            Watch y = new Watch();
            y.jump(0, GREATEST - 1);
            due.runs(y, "r0;" + item, -14, 4);
            due.is("what came ahead", y.told(0), 1);
            due.is("clock", y.clock(0, 0, 0), GREATEST);
        }
        Watch x = new Watch();
        x.event(0, FORK, 1);
        x.jump(0, GREATEST - 2);
        due.runs(x, "r0;w0;g0;l0(r0;)j1;", 7, -1);
    }

    private static void threadsThatDoNotGo() {
        due.sentence("for 't' a THREAD that does not GO; at the number");
        for (int thread = 1; thread < 4; thread++) {
            Watch x = new Watch();
            due.runs(x, "t" + thread + "()", -14, 1);
            due.runs(x, "t" + thread + "x", -14, 1);
            due.runs(x, "f" + thread + ";t" + thread + "(r0;)", 2, -1);
            due.runs(x, "j" + thread + ";t" + thread + "()", -14, 4);
        }
        Watch x = new Watch();
        due.runs(x, "f1;t1(j0;)", 2, -1);
        due.runs(x, "", 0, -1);
        due.runs(x, "t1(r0;)", 1, -1);
        due.runs(x, "r0;", -14, 1);
        due.runs(x, "t0()", -14, 1);
        due.sentence("THREAD T is at it, though it is DONE meanwhile: no FAULT ahead of its next EVENT");
        Watch y = new Watch();
        due.runs(y, "f1;t1(t0(j1;))", 2, -1);
        due.runs(y, "f2;t2(t0(j2;)r0;)", -14, 14);
    }

    private static void refusedInATextChangesNothing() {
        due.sentence("What is refused changes nothing.");
        Watch[] states = {States.busy(), States.great(), States.full()};
        String[][] texts = {{"l1(", "f0;", "f1;", "f2;", "j0;", "j1;", "j2;", "j3;", "t2(", "t3(", "r4;", "w9;", "p2;", "g2;", "l3(", "f4;", "j4;", "t4(", "t1(l1(", "x"},
            {"p0;", "p1;", "f3;", "t1(p0;", "t1(f3;"}, {"r0;", "w0;", "l0(", "p0;", "g0;", "f3;", "t1(j0;", "t1(w0;"}};
        for (int i = 0; i < states.length; i++) {
            states[i].run();
            String before = Seen.sectionOne(states[i]);
            for (String text : texts[i]) {
                Watch x = states[i].twin();
                due.yes("\"" + text + "\" has a FAULT", due.run(x, text) < -10);
                due.yes("\"" + text + "\" changes nothing", Seen.sectionOne(x).equals(before));
                due.is("\"" + text + "\" opens no REGION", x.told(7), 2);
            }
        }
    }

    private static void theLeastOfTheFaults() {
        due.sentence("of these the least");
        due.runs(States.withReads(160), "rx", -11, 1);
        due.runs(States.withReads(160), "r4;", -12, 1);
        due.runs(States.withReads(160), "l3(", -12, 1);
        due.runs(States.withReads(160), "j1;", -13, 1);
        due.runs(States.withReads(160), "t1(", -14, 1);
        due.runs(new Watch(), "j4;", -12, 1);
        due.runs(new Watch(), "t4(", -12, 1);
        Watch x = States.withReads(160);
        x.jump(0, GREATEST - 1);
        due.runs(x, "p2;", -12, 1);
        due.runs(x, "p0;", -13, 1);
        due.runs(States.withReads(158), "l0(l0())", -13, 4);
        due.runs(States.withReads(157), "l0(l0())", -13, 4);
        due.runs(States.withReads(156), "l0(l0())", -14, 4);
    }

    private static void leaveMakesNoStep() {
        due.sentence("LEAVE of a REGION that is shut makes no STEP, where that would be MUCH.");
        for (int below = 0; below <= 2; below++) {
            for (String end : new String[] {")", "", "x", "r9;", "j1;"}) {
                Watch x = new Watch();
                x.jump(0, GREATEST - 1 - below);
                due.run(x, "l2(w0;" + end);
                due.row("TAKE, WRITE, LEAVE", new int[] {x.told(0), x.eventOf(0, 1), x.eventOf(1, 1), x.eventOf(2, 1)}, 3, TAKE, WRITE, LEAVE);
                due.is("LEAVE keeps the clock ahead", x.eventOf(2, 3), GREATEST - below);
                due.is("clock of the LOCK", x.clock(1, 2, 0), GREATEST - below);
                due.is("own number", x.clock(0, 0, 0), below == 0 ? GREATEST : GREATEST - below + 1);
                due.is("nobody holds it", x.holder(2), NONE);
                due.is("opened and shut", x.told(7), 2);
            }
        }
        Watch x = new Watch();
        x.jump(0, GREATEST - 2);
        due.runs(x, "l0(l1(l2()))", 6, -1);
        due.is("one STEP of three", x.clock(0, 0, 0), GREATEST);
        due.row("clocks of the LOCKS", new int[] {x.clock(1, 2, 0), x.clock(1, 1, 0), x.clock(1, 0, 0)}, GREATEST - 1, GREATEST, GREATEST);
        x.event(0, TAKE, 0);
        due.is("by hand it is refused", x.event(0, LEAVE, 0), MUCH);
    }

    private static void whatCameAheadStays() {
        due.sentence("What came ahead of a FAULT stays");
        String[] faults = {"x", "r9;", "r0", "j1;"};
        for (String fault : faults) {
            Watch x = new Watch();
            due.run(x, "w0;f2;t2(r0;p1;" + fault);
            due.yes("a FAULT", x.fault() > 0);
            due.row("what came", new int[] {x.eventOf(0, 1), x.eventOf(1, 1), x.eventOf(2, 1), x.eventOf(3, 1)}, WRITE, FORK, READ, PUT);
            due.is("told(1)", x.told(1), 5);
            due.is("cell(0, 2)", x.cell(0, 2), 2);
            due.is("clock(2, 1, 2)", x.clock(2, 1, 2), 1);
        }
        Watch x = States.withReads(158);
        due.runs(x, "w0;w1;w2;", -13, 7);
        due.is("told(0)", x.told(0), 160);
        due.is("cell(1, 0)", x.cell(1, 0), 0);
    }

    private static void takeComesAtTheNumber() {
        due.sentence("(TAKE comes at the number L, ahead of the '(')");
        for (String text : new String[] {"l2", "l2x", "l2;", "l2 r0;)", "l22"}) {
            Watch x = new Watch();
            due.run(x, text);
            due.is("TAKE and LEAVE of " + text, x.told(0), 2);
            due.row("TAKE", Seen.event(x, 0), 0, TAKE, 2, 1, 0, 0, 0, 4);
            due.row("LEAVE", Seen.event(x, 1), 0, LEAVE, 2, 1, 0, 0, 0, 0);
            due.is("entries", x.told(7), 2);
            due.is("a STEP", x.clock(0, 0, 0), 2);
        }
        Watch x = new Watch();
        due.runs(x, "l", -11, 1);
        due.runs(x, "l3", -12, 1);
        due.is("no TAKE ahead of the number", x.told(0), 0);
        due.is("no entry", x.told(7), 0);
    }

    private static void regionsAreShutByEachFault() {
        due.sentence("REGIONS that are open then are shut all the same, the last opened first");
        String[] faults = {"", "x", "r9;", "l0(", "t3("};
        int[] answers = {-11, -11, -12, -14, -14};
        for (int i = 0; i < faults.length; i++) {
            Watch x = new Watch();
            due.is("FAULT by \"" + faults[i] + "\"", due.run(x, "f1;f2;l2(t1(l0(t2(l1(t0(" + faults[i]), answers[i]);
            shutThree(x, 5);
        }
        Watch x = new Watch();
        x.event(0, FORK, 1);
        x.event(0, FORK, 2);
        for (int e = 2; e < 154; e++) {
            x.event(0, READ, 0);
        }
        due.runs(x, "l2(t1(l0(t2(l1(t0(r0;))))))", -13, 19);
        shutThree(x, 157);
        due.is("up to the last EVENT", x.told(0), 160);
    }

    /** LOCK 1 by THREAD 2, then LOCK 0 by 1, then LOCK 2 by 0, from EVENT e on. */
    private static void shutThree(Watch x, int e) {
        int[] locks = {1, 0, 2};
        int[] threads = {2, 1, 0};
        for (int i = 0; i < 3; i++) {
            due.row("LEAVE " + i, new int[] {x.eventOf(e + i, 0), x.eventOf(e + i, 1), x.eventOf(e + i, 2)}, threads[i], LEAVE, locks[i]);
            due.is("journal, shut", x.journal(2 - i, 0), locks[i]);
            due.is("journal, shut", x.journal(2 - i, 1), 0);
            due.is("journal, opened", x.journal(3 + i, 0), locks[i]);
            due.is("journal, opened", x.journal(3 + i, 1), 1);
        }
        due.is("told(0)", x.told(0), e + 3);
        due.is("told(3)", x.told(3), 0);
        due.is("told(7)", x.told(7), 6);
    }

    private static void locksByHandStay() {
        due.sentence("REGIONS that are open are shut: what was taken by hand is no REGION");
        Watch x = new Watch();
        x.event(0, TAKE, 1);
        due.runs(x, "l0(r0;x", -11, 6);
        due.is("holder(0)", x.holder(0), NONE);
        due.is("holder(1)", x.holder(1), 0);
        due.runs(x, "l2(l1(", -14, 4);
        due.is("holder(1)", x.holder(1), 0);
        due.is("holder(2)", x.holder(2), NONE);
    }

    private static void journalOfRegions() {
        due.sentence("THE JOURNAL keeps each REGION that was opened, shut: the LOCK.");
        Watch x = new Watch();
        due.is("empty: told(7)", x.told(7), 0);
        due.is("empty: journal(0, 0)", x.journal(0, 0), NONE);
        due.is("empty: journal(0, 1)", x.journal(0, 1), NONE);
        x.event(0, TAKE, 0);
        x.event(0, LEAVE, 0);
        x.drift(40, 3);
        due.runs(x, "t0()", 0, -1);
        due.is("no REGION", x.told(7), 0);
        x.anew();
        due.runs(x, "l2(l0())l1()", 6, -1);
        due.is("told(7)", x.told(7), 6);
        int[] locks = {1, 1, 2, 0, 0, 2};
        int[] opened = {0, 1, 0, 0, 1, 1};
        for (int i = 0; i < 6; i++) {
            due.is("journal(" + i + ", 0)", x.journal(i, 0), locks[i]);
            due.is("journal(" + i + ", 1)", x.journal(i, 1), opened[i]);
        }
        due.is("journal(6, 0)", x.journal(6, 0), NONE);
    }

    private static void journalOf24() {
        due.sentence("24 at most, the oldest are lost");
        Watch x = new Watch();
        due.runs(x, "l2()l0()" + times("l1()", 9), 22, -1);
        due.is("22 entries", x.told(7), 22);
        due.is("the oldest", x.journal(21, 0), 2);
        due.is("none behind it", x.journal(22, 0), NONE);
        due.runs(x, "l1()", 2, -1);
        due.is("24 entries", x.told(7), 24);
        due.row("the oldest three", new int[] {x.journal(23, 0), x.journal(22, 0), x.journal(21, 0)}, 2, 2, 0);
        due.row("opened, shut", new int[] {x.journal(23, 1), x.journal(22, 1), x.journal(21, 1)}, 1, 0, 1);
        due.is("none behind them", x.journal(24, 0), NONE);
        due.runs(x, "l2()", 2, -1);
        due.is("still 24", x.told(7), 24);
        due.row("two are lost", new int[] {x.journal(23, 0), x.journal(22, 0), x.journal(21, 0)}, 0, 0, 1);
        due.row("the latest", new int[] {x.journal(0, 0), x.journal(0, 1), x.journal(1, 0), x.journal(1, 1), x.journal(2, 0)}, 2, 0, 2, 1, 1);
        due.is("none behind the oldest", x.journal(24, 1), NONE);
        Watch y = new Watch();
        due.runs(y, "l2()" + times("l0()", 11) + "l1()", 26, -1);
        due.is("26 in one run: 24", y.told(7), 24);
        due.is("the oldest", y.journal(23, 0), 0);
        due.is("the latest", y.journal(0, 0), 1);
    }
}
