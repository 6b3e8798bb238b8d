/** Promises 9 to 12: told, clock, eventOf, holder. */
public final class ToldTest {
    private static final Due due = new Due("ToldTest");

    public static void main(String[] args) {
        toldOfAll();
        toldCellsWithRaceByPairs();
        clocks();
        eventsKeepClocks();
        eventsKeepLocks();
        eventRefusals();
        holders();
        due.end();
    }

    private static void toldOfAll() {
        Watch x = new Watch();
        due.runs(x, "f1;f2;f3;t1(r0;r2;)t2(r0;r2;w3;)r0;t3(w3;)j1;l0(l1(x", -11, 51);
        x.event(2, 2, 2);
        x.event(3, 2, 0);
        x.feed('r');
        due.is("told(0)", x.told(0), 17);
        due.is("told(1)", x.told(1), 13);
        due.is("told(2)", x.told(2), 2);
        due.is("told(3)", x.told(3), 5);
        due.is("told(4)", x.told(4), 8);
        due.is("told(5)", x.told(5), 1);
        due.is("told(6)", x.told(6), 1);
        due.is("told(7)", x.told(7), 4);
        due.is("told(8)", x.told(8), 2);
        x.event(0, 1, 0);
        due.is("told(4)", x.told(4), 9);
        due.is("told(5)", x.told(5), 2);
        due.is("told(8) stays behind the WRITE", x.told(8), 2);
        for (int what : new int[] {-2147483648, -1, 9, 2147483647}) {
            due.is("told(" + what + ")", x.told(what), RaceWatch.OUTSIDE);
        }
    }

    /**
     * LEAVE without a STEP hands on a number that later accesses have too; then a pair can RACE
     * though what the CELL keeps shows none.
     */
    private static void toldCellsWithRaceByPairs() {
        Watch x = new Watch();
        due.runs(x, "f1;f2;", 2, -1);
        x.jump(1, 2147483646);
        due.runs(x, "t1(l0())t2(l0())t0(w0;p0;)t1(g0;w0;)t2(w0;)", 9, -1);
        due.is("cell(0, 6)", x.cell(0, 6), RaceWatch.NONE);
        due.is("races(0, 0)", x.races(0, 0), 1);
        due.row("race(0, 0, ..)", Seen.race(x, 0, 0), 6, 10, 0);
        due.is("told(4)", x.told(4), 1);
        due.is("told(5)", x.told(5), 1);
    }

    private static void clocks() {
        Watch x = new Watch();
        due.runs(x, "f3;p1;l2(r0;)", 5, -1);
        due.row("clock of 0", Seen.clock(x, 0, 0), 4, 0, 0, 0);
        due.row("clock of 3", Seen.clock(x, 0, 3), 1, 0, 0, 1);
        due.row("clock of a NEW one", Seen.clock(x, 0, 2), 0, 0, 1, 0);
        due.row("clock of lock 2", Seen.clock(x, 1, 2), 3, 0, 0, 0);
        due.row("clock of seen 1", Seen.clock(x, 2, 1), 2, 0, 0, 0);
        int[] rows = {4, 3, 2};
        for (int of = 0; of < 3; of++) {
            due.is("clock(" + of + ", too great, 0)", x.clock(of, rows[of], 0), RaceWatch.UNKNOWN);
            due.is("clock(" + of + ", -1, 0)", x.clock(of, -1, 0), RaceWatch.UNKNOWN);
            due.is("clock(" + of + ", 0, 4)", x.clock(of, 0, 4), RaceWatch.UNKNOWN);
            due.is("clock(" + of + ", 0, -1)", x.clock(of, 0, -1), RaceWatch.UNKNOWN);
        }
        due.is("clock(3, 0, 0)", x.clock(3, 0, 0), RaceWatch.OUTSIDE);
        due.is("clock(-1, 0, 0)", x.clock(-1, 0, 0), RaceWatch.OUTSIDE);
        due.is("clock(3, 0, 4)", x.clock(3, 0, 4), RaceWatch.UNKNOWN);
        due.is("clock(0, 2147483647, 0)", x.clock(0, 2147483647, 0), RaceWatch.UNKNOWN);
        due.is("clock(0, -2147483648, 0)", x.clock(0, -2147483648, 0), RaceWatch.UNKNOWN);
    }

    private static void eventsKeepClocks() {
        Watch x = new Watch();
        x.event(0, 6, 1);
        x.event(1, 1, 3);
        x.event(1, 2, 1);
        x.event(1, 3, 1);
        x.event(1, 4, 0);
        x.event(0, 2, 1);
        x.event(0, 5, 0);
        x.event(0, 0, 3);
        x.event(1, 4, 0);
        x.event(0, 7, 1);
        x.event(0, 6, 3);
        due.row("FORK, as ahead", Seen.event(x, 0), 0, 6, 1, 1, 0, 0, 0, 0);
        due.row("WRITE", Seen.event(x, 1), 1, 1, 3, 1, 1, 0, 0, 0);
        due.row("TAKE, with it", Seen.event(x, 2), 1, 2, 1, 1, 1, 0, 0, 2);
        due.row("LEAVE, as ahead, without it", Seen.event(x, 3), 1, 3, 1, 1, 1, 0, 0, 0);
        due.row("PUT, as ahead", Seen.event(x, 4), 1, 4, 0, 1, 2, 0, 0, 0);
        due.row("TAKE, as behind", Seen.event(x, 5), 0, 2, 1, 2, 1, 0, 0, 2);
        due.row("GET, as behind", Seen.event(x, 6), 0, 5, 0, 2, 2, 0, 0, 2);
        due.row("READ", Seen.event(x, 7), 0, 0, 3, 2, 2, 0, 0, 2);
        due.row("PUT", Seen.event(x, 8), 1, 4, 0, 1, 3, 0, 0, 0);
        due.row("WAIT, as behind", Seen.event(x, 9), 0, 7, 1, 2, 4, 0, 0, 2);
        due.row("FORK", Seen.event(x, 10), 0, 6, 3, 2, 4, 0, 0, 2);
        due.row("clock of 3", Seen.clock(x, 0, 3), 2, 4, 0, 1);
    }

    private static void eventsKeepLocks() {
        Watch x = new Watch();
        due.runs(x, "f1;l0(l2(r0;t1(r0;l1(r0;))))r0;", 11, -1);
        int[] locks = {0, 1, 5, 5, 0, 2, 2, 0, 1, 0, 0};
        for (int e = 0; e < 11; e++) {
            due.is("eventOf(" + e + ", 7)", x.eventOf(e, 7), locks[e]);
        }
    }

    private static void eventRefusals() {
        Watch x = new Watch();
        due.is("eventOf(0, 0)", x.eventOf(0, 0), RaceWatch.UNKNOWN);
        x.event(0, 0, 0);
        due.is("eventOf(0, 0)", x.eventOf(0, 0), 0);
        due.is("eventOf(1, 0)", x.eventOf(1, 0), RaceWatch.UNKNOWN);
        due.is("eventOf(-1, 0)", x.eventOf(-1, 0), RaceWatch.UNKNOWN);
        due.is("eventOf(1, 8)", x.eventOf(1, 8), RaceWatch.UNKNOWN);
        due.is("eventOf(0, 8)", x.eventOf(0, 8), RaceWatch.OUTSIDE);
        due.is("eventOf(0, -1)", x.eventOf(0, -1), RaceWatch.OUTSIDE);
        x.anew();
        due.is("eventOf(0, 0) behind anew()", x.eventOf(0, 0), RaceWatch.UNKNOWN);
    }

    private static void holders() {
        Watch x = new Watch();
        x.event(0, 6, 2);
        x.event(0, 2, 0);
        x.event(2, 2, 2);
        due.is("holder(0)", x.holder(0), 0);
        due.is("holder(1)", x.holder(1), RaceWatch.NONE);
        due.is("holder(2)", x.holder(2), 2);
        due.is("holder(3)", x.holder(3), RaceWatch.UNKNOWN);
        due.is("holder(-1)", x.holder(-1), RaceWatch.UNKNOWN);
        x.event(0, 3, 0);
        due.is("holder(0)", x.holder(0), RaceWatch.NONE);
    }
}
