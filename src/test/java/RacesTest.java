/** Promises 14 to 20: ahead, races, race, cell, shared, would, guard. */
public final class RacesTest {
    private static final Due due = new Due("RacesTest");

    public static void main(String[] args) {
        whatIsAhead();
        aheadRefusals();
        kindsOfRaces();
        racesInOrder();
        racesByPairsGoOn();
        raceRefusals();
        cellKeepsWriteAndRead();
        cellBecomesShared();
        firstRace();
        cellRefusals();
        whatWouldRace();
        wouldRefusals();
        guards();
        due.end();
    }

    private static void whatIsAhead() {
        Watch x = new Watch();
        due.runs(x, "w0;f1;w0;t1(r0;l0(r0;))w0;l0(w0;)t1(p1;w0;)g1;w0;j1;", 16, -1);
        due.is("FORK: ahead(0, 3)", x.ahead(0, 3), 1);
        due.is("FORK itself: ahead(1, 3)", x.ahead(1, 3), 1);
        due.is("behind FORK: ahead(2, 3)", x.ahead(2, 3), 0);
        due.is("same THREAD: ahead(0, 2)", x.ahead(0, 2), 1);
        due.is("LEAVE not yet taken: ahead(5, 7)", x.ahead(5, 7), 0);
        due.is("LEAVE and TAKE: ahead(5, 9)", x.ahead(5, 9), 1);
        due.is("LEAVE itself: ahead(6, 8)", x.ahead(6, 8), 1);
        due.is("PUT and GET: ahead(11, 13)", x.ahead(11, 13), 1);
        due.is("behind PUT: ahead(12, 14)", x.ahead(12, 14), 0);
        due.is("WAIT: ahead(12, 15)", x.ahead(12, 15), 1);
        due.is("not later: ahead(3, 0)", x.ahead(3, 0), 0);
        due.is("not later, same THREAD: ahead(2, 0)", x.ahead(2, 0), 0);
        due.is("the latest and the one ahead of it: ahead(15, 14)", x.ahead(15, 14), 0);
        for (int e = 0; e < 16; e++) {
            due.is("one twice: ahead(" + e + ", " + e + ")", x.ahead(e, e), RaceWatch.UNKNOWN);
        }
    }

    private static void aheadRefusals() {
        Watch x = new Watch();
        due.is("ahead(0, 0)", x.ahead(0, 0), RaceWatch.UNKNOWN);
        x.event(0, 0, 0);
        x.event(0, 0, 0);
        due.is("ahead(0, 1)", x.ahead(0, 1), 1);
        due.is("ahead(0, 2)", x.ahead(0, 2), RaceWatch.UNKNOWN);
        due.is("ahead(2, 0)", x.ahead(2, 0), RaceWatch.UNKNOWN);
        due.is("ahead(-1, 0)", x.ahead(-1, 0), RaceWatch.UNKNOWN);
        due.is("ahead(0, -1)", x.ahead(0, -1), RaceWatch.UNKNOWN);
        due.is("ahead(160, 2147483647)", x.ahead(160, 2147483647), RaceWatch.UNKNOWN);
        due.is("ahead(0, 0), one twice", x.ahead(0, 0), RaceWatch.UNKNOWN);
        due.is("ahead(1, 1), one twice", x.ahead(1, 1), RaceWatch.UNKNOWN);
        due.is("ahead(1, 0), not later", x.ahead(1, 0), 0);
    }

    private static void kindsOfRaces() {
        Watch x = new Watch();
        due.runs(x, "f1;w0;t1(w0;)w1;t1(r1;)r2;t1(w2;)r3;t1(r3;)", 9, -1);
        due.row("races(0, ..)", Seen.races(x, 0), 1, 0, 0, 1);
        due.row("races(1, ..)", Seen.races(x, 1), 0, 1, 0, 1);
        due.row("races(2, ..)", Seen.races(x, 2), 0, 0, 1, 1);
        due.row("races(3, ..)", Seen.races(x, 3), 0, 0, 0, 0);
        due.row("race(0, 0, ..)", Seen.race(x, 0, 0), 1, 2, 0);
        due.row("race(1, 0, ..)", Seen.race(x, 1, 0), 3, 4, 1);
        due.row("race(2, 0, ..)", Seen.race(x, 2, 0), 5, 6, 2);
        due.row("race(3, 0, ..)", Seen.race(x, 3, 0), -1, -1, -1);
        due.is("told(4)", x.told(4), 7);
        due.runs(x, "p0;t1(g0;w0;)", 3, -1);
        due.row("ordered by PUT and GET", Seen.races(x, 0), 1, 0, 0, 1);
    }

    private static void racesInOrder() {
        Watch x = new Watch();
        due.runs(x, "f1;f2;r0;w0;t1(r0;w0;)t2(w0;r1;)", 8, -1);
        int[][] want = {{3, 4, 1}, {2, 5, 2}, {3, 5, 0}, {2, 6, 2}, {3, 6, 0}, {4, 6, 2}, {5, 6, 0}, {-1, -1, -1}};
        for (int k = 0; k < want.length; k++) {
            due.row("race(0, " + k + ", ..)", Seen.race(x, 0, k), want[k]);
        }
        due.row("races(0, ..)", Seen.races(x, 0), 3, 1, 3, 7);
        due.row("races(1, ..)", Seen.races(x, 1), 0, 0, 0, 0);
    }

    /** The CELL keeps just the last ones; RACES count all pairs. */
    private static void racesByPairsGoOn() {
        Watch x = new Watch();
        due.runs(x, "f1;w0;w0;w0;t1(w0;w0;)", 6, -1);
        due.is("races(0, 0)", x.races(0, 0), 6);
        due.is("told(5)", x.told(5), 6);
        for (int e = x.told(0); e < 160; e++) {
            x.event(e % 2, 1, 0);
        }
        due.is("races of all pairs", x.races(0, 3), x.told(5));
        int count = x.races(0, 0);
        due.is("race, the last one", x.race(0, count - 1, 1), 159);
        due.is("race, one more", x.race(0, count, 1), RaceWatch.NONE);
        due.is("3 + 77 by 0 and 2 + 77 by 1", count, 80 * 79);
    }

    private static void raceRefusals() {
        Watch x = new Watch();
        due.runs(x, "f1;w0;t1(w0;)", 3, -1);
        for (int cell : new int[] {-1, 4, 2147483647, -2147483648}) {
            due.is("races(" + cell + ", 3)", x.races(cell, 3), RaceWatch.UNKNOWN);
            due.is("races(" + cell + ", 4)", x.races(cell, 4), RaceWatch.UNKNOWN);
            due.is("race(" + cell + ", 0, 0)", x.race(cell, 0, 0), RaceWatch.UNKNOWN);
            due.is("race(" + cell + ", -1, 3)", x.race(cell, -1, 3), RaceWatch.UNKNOWN);
        }
        for (int wrong : new int[] {-1, 4, 2147483647, -2147483648}) {
            due.is("races(0, " + wrong + ")", x.races(0, wrong), RaceWatch.OUTSIDE);
            due.is("race(0, 0, " + wrong + ")", x.race(0, 0, wrong), RaceWatch.OUTSIDE);
        }
        due.is("race(0, 0, 3)", x.race(0, 0, 3), RaceWatch.OUTSIDE);
        due.is("race(0, 9, 3)", x.race(0, 9, 3), RaceWatch.OUTSIDE);
        due.is("race(0, -1, 0)", x.race(0, -1, 0), RaceWatch.OUTSIDE);
        due.is("race(0, -2147483648, 0)", x.race(0, -2147483648, 0), RaceWatch.OUTSIDE);
        due.is("race(0, 2147483647, 0)", x.race(0, 2147483647, 0), RaceWatch.NONE);
        due.is("race(0, 0, 1)", x.race(0, 0, 1), 2);
    }

    private static void cellKeepsWriteAndRead() {
        Watch x = new Watch();
        x.jump(0, 4);
        x.event(0, 1, 2);
        due.row("WRITE", Seen.cell(x, 2), 0, 5, -1, 0, 0, 0, -1, -1);
        x.event(0, 0, 2);
        due.row("READ", Seen.cell(x, 2), 0, 5, 0, 5, 0, 0, -1, -1);
        x.event(0, 6, 1);
        x.event(1, 0, 2);
        due.row("READ behind, by another", Seen.cell(x, 2), 0, 5, 1, 1, 0, 0, -1, -1);
        x.jump(1, 2);
        x.event(1, 0, 2);
        due.row("READ again", Seen.cell(x, 2), 0, 5, 1, 3, 0, 0, -1, -1);
        x.event(1, 1, 2);
        due.row("WRITE forgets READ", Seen.cell(x, 2), 1, 3, -1, 0, 0, 0, -1, -1);
        due.row("another CELL", Seen.cell(x, 1), -1, 0, -1, 0, 0, 0, -1, -1);
    }

    private static void cellBecomesShared() {
        Watch x = new Watch();
        due.runs(x, "f1;f2;r1;t1(r1;)", 4, -1);
        due.row("SHARED", Seen.cell(x, 1), -1, 0, -1, 0, 1, 1, -1, -1);
        due.row("both numbers", Seen.shared(x, 1), 3, 1, 0, 0);
        due.row("another CELL", Seen.shared(x, 0), 0, 0, 0, 0);
        x.jump(1, 6);
        due.runs(x, "t1(r1;)t2(r1;)", 2, -1);
        due.row("more numbers", Seen.shared(x, 1), 3, 7, 1, 0);
        due.is("PROMOTIONS", x.cell(1, 5), 1);
        due.runs(x, "t1(p0;)t2(p0;)g0;r1;", 4, -1);
        due.is("it stays SHARED", x.cell(1, 4), 1);
        due.runs(x, "w1;", 1, -1);
        due.row("WRITE forgets all", Seen.cell(x, 1), 0, 3, -1, 0, 0, 1, -1, -1);
        due.row("shared(1, ..)", Seen.shared(x, 1), 0, 0, 0, 0);
        due.runs(x, "t1(r1;)t2(r1;)", 2, -1);
        due.is("PROMOTIONS", x.cell(1, 5), 2);
        due.row("numbers anew", Seen.shared(x, 1), 0, 8, 2, 0);
        due.is("told(8)", x.told(8), 2);
    }

    private static void firstRace() {
        Watch x = new Watch();
        due.runs(x, "f1;f2;r0;t1(r0;)t2(w0;)", 5, -1);
        due.is("cell(0, 6), any number of those SHARED", x.cell(0, 6), 4);
        due.is("cell(0, 7)", x.cell(0, 7), 2);
        due.runs(x, "w0;", 1, -1);
        due.is("cell(0, 6) stays", x.cell(0, 6), 4);
        due.is("cell(0, 7) stays", x.cell(0, 7), 2);
        due.runs(x, "w1;t1(r1;)w2;r2;t1(w2;)", 5, -1);
        due.is("cell(1, 6)", x.cell(1, 6), 7);
        due.is("cell(1, 7)", x.cell(1, 7), 1);
        due.is("cell(2, 6)", x.cell(2, 6), 10);
        due.is("KIND 0 goes ahead of KIND 2", x.cell(2, 7), 0);
        due.is("cell(3, 6)", x.cell(3, 6), RaceWatch.NONE);
        due.is("cell(3, 7)", x.cell(3, 7), RaceWatch.NONE);
    }

    private static void cellRefusals() {
        Watch x = new Watch();
        due.is("cell(4, 0)", x.cell(4, 0), RaceWatch.UNKNOWN);
        due.is("cell(-1, 8)", x.cell(-1, 8), RaceWatch.UNKNOWN);
        due.is("cell(0, 8)", x.cell(0, 8), RaceWatch.OUTSIDE);
        due.is("cell(0, -1)", x.cell(0, -1), RaceWatch.OUTSIDE);
        due.is("cell(3, 0)", x.cell(3, 0), RaceWatch.NONE);
        due.is("shared(4, 0)", x.shared(4, 0), RaceWatch.UNKNOWN);
        due.is("shared(-1, 0)", x.shared(-1, 0), RaceWatch.UNKNOWN);
        due.is("shared(0, 4)", x.shared(0, 4), RaceWatch.UNKNOWN);
        due.is("shared(0, -1)", x.shared(0, -1), RaceWatch.UNKNOWN);
        x.event(0, 0, 0);
        due.is("shared(0, 0), not SHARED", x.shared(0, 0), 0);
    }

    private static void whatWouldRace() {
        Watch x = new Watch();
        due.runs(x, "f1;w0;r1;r2;t1(r2;)w3;r3;", 7, -1);
        String before = Seen.all(x);
        due.is("would(1, 0, true)", x.would(1, 0, true), 0);
        due.is("would(1, 0, false)", x.would(1, 0, false), 1);
        due.is("would(1, 1, true)", x.would(1, 1, true), 2);
        due.is("would(1, 1, false)", x.would(1, 1, false), RaceWatch.NONE);
        due.is("would(0, 2, true), SHARED", x.would(0, 2, true), 2);
        due.is("would(1, 2, true), SHARED", x.would(1, 2, true), 2);
        due.is("would(1, 2, false), SHARED", x.would(1, 2, false), RaceWatch.NONE);
        due.is("would(1, 3, true), WRITE and READ", x.would(1, 3, true), 0);
        due.is("would(0, 0, true)", x.would(0, 0, true), RaceWatch.NONE);
        due.is("would(0, 0, false)", x.would(0, 0, false), RaceWatch.NONE);
        due.is("nothing changed", Seen.all(x).equals(before) ? 1 : 0, 1);
        due.runs(x, "p1;t1(g1;)", 2, -1);
        due.is("would(1, 0, true)", x.would(1, 0, true), RaceWatch.NONE);
        due.is("would(1, 2, true)", x.would(1, 2, true), RaceWatch.NONE);
        due.is("would(0, 2, true)", x.would(0, 2, true), 2);
    }

    private static void wouldRefusals() {
        Watch x = new Watch();
        due.is("would(4, 0, true)", x.would(4, 0, true), RaceWatch.UNKNOWN);
        due.is("would(-1, 0, false)", x.would(-1, 0, false), RaceWatch.UNKNOWN);
        due.is("would(0, 4, true)", x.would(0, 4, true), RaceWatch.UNKNOWN);
        due.is("would(1, -1, true)", x.would(1, -1, true), RaceWatch.UNKNOWN);
        due.is("would(1, 0, true), NEW", x.would(1, 0, true), RaceWatch.NOT);
        x.event(0, 6, 1);
        due.is("would(1, 0, true)", x.would(1, 0, true), RaceWatch.NONE);
        x.event(0, 7, 1);
        due.is("would(1, 0, false), DONE", x.would(1, 0, false), RaceWatch.NOT);
    }

    private static void guards() {
        Watch x = new Watch();
        due.is("guard(0), no access", x.guard(0), 7);
        due.runs(x, "f1;l0(l1(l2(w0;)r0;w1;t1(w2;)))", 11, -1);
        due.is("guard(0)", x.guard(0), 3);
        due.is("guard(1)", x.guard(1), 3);
        due.is("guard(2), by the own THREAD's LOCKS", x.guard(2), 0);
        due.is("guard(3)", x.guard(3), 7);
        due.runs(x, "l1(r1;)l0(w0;)", 6, -1);
        due.is("guard(1)", x.guard(1), 2);
        due.is("guard(0)", x.guard(0), 1);
        x.event(1, 0, 0);
        due.is("guard(0)", x.guard(0), 0);
        due.runs(x, "l2(w3;)l2(l1(w3;))", 8, -1);
        due.is("guard(3), more LOCKS later", x.guard(3), 4);
        due.is("guard(4)", x.guard(4), RaceWatch.UNKNOWN);
        due.is("guard(-1)", x.guard(-1), RaceWatch.UNKNOWN);
    }
}
