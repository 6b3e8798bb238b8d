/** Promises 21 and 22: keep, goBack. */
public final class ImagesTest {
    private static final Due due = new Due("ImagesTest");

    public static void main(String[] args) {
        keepAndGoBack();
        goBackBehindAnotherRun();
        imagesAreApart();
        textAndJournalStay();
        refusals();
        due.end();
    }

    private static Watch busy(String text, int seed) {
        Watch x = new Watch();
        due.run(x, text);
        x.drift(40, seed);
        x.drift(40, seed + 1);
        return x;
    }

    private static void same(String what, String got, String want) {
        due.is(what, got.equals(want) ? 1 : 0, 1);
    }

    private static void keepAndGoBack() {
        Watch x = busy("f1;f2;r0;t1(r0;l0(w1;)p1;)t2(w0;)w1;", 5);
        String kept = Seen.sectionOne(x);
        int count = x.told(0);
        due.is("keep(0)", x.keep(0), count);
        same("keep changes nothing", Seen.sectionOne(x), kept);
        x.drift(40, 77);
        x.jump(0, 9);
        due.run(x, "w0;w1;w2;w3;t1(r0;r1;)t2(r2;r3;w3;)j2;j1;");
        same("it went on", Seen.sectionOne(x).equals(kept) ? "same" : "other", "other");
        due.is("goBack(0)", x.goBack(0), count);
        same("all as it was", Seen.sectionOne(x), kept);
        due.is("the next EVENT", x.event(Integer.numberOfTrailingZeros(x.told(1)), 0, 3), count);
        due.is("goBack(0) again", x.goBack(0), count);
        same("the IMAGE did not change", Seen.sectionOne(x), kept);
        due.is("anew()", x.anew(), count);
        due.is("goBack(0)", x.goBack(0), count);
        same("behind anew()", Seen.sectionOne(x), kept);
        x.drift(40, 31);
        Watch twin = busy("f1;f2;r0;t1(r0;l0(w1;)p1;)t2(w0;)w1;", 5);
        twin.drift(40, 31);
        same("it goes on alike", Seen.sectionOne(x), Seen.sectionOne(twin));
    }

    /** Another run lies over all rows of the one that was kept. */
    private static void goBackBehindAnotherRun() {
        Watch x = new Watch();
        due.runs(x, "f3;f2;t3(r1;)t2(r1;l2(w2;p1;))r1;t3(w2;)l1(w3;)t2(w3;)", 14, -1);
        String kept = Seen.sectionOne(x);
        due.is("SHARED", x.cell(1, 4), 1);
        x.keep(1);
        x.anew();
        due.run(x, "w0;w1;w2;w3;f1;l0(w0;t1(l2(w0;w1;w2;w3;)))p0;t1(g0;)j1;");
        x.jump(0, 100);
        for (int i = x.told(0); i < 160; i++) {
            x.event(0, i % 2, 1 + i % 3);
        }
        due.is("goBack(1)", x.goBack(1) == x.told(0) ? 1 : 0, 1);
        same("all as it was", Seen.sectionOne(x), kept);
    }

    private static void imagesAreApart() {
        Watch x = new Watch();
        due.is("keep(0), empty", x.keep(0), 0);
        due.is("goBack(1)", x.goBack(1), RaceWatch.NOT);
        x.event(0, 1, 0);
        due.is("keep(1)", x.keep(1), 1);
        x.event(0, 6, 1);
        due.is("goBack(0)", x.goBack(0), 0);
        due.is("told(0)", x.told(0), 0);
        due.is("goBack(1)", x.goBack(1), 1);
        due.is("told(0)", x.told(0), 1);
        x.event(0, 6, 1);
        due.is("keep(0) anew", x.keep(0), 2);
        due.is("goBack(1)", x.goBack(1), 1);
        due.is("told(1)", x.told(1), 1);
        due.is("goBack(0)", x.goBack(0), 2);
        due.is("told(1)", x.told(1), 3);
    }

    private static void textAndJournalStay() {
        Watch x = new Watch();
        due.runs(x, "l0(r0;)", 3, -1);
        x.keep(0);
        due.runs(x, "l1(w0;)x", -11, 7);
        x.feed('r');
        due.is("goBack(0)", x.goBack(0), 3);
        due.is("told(6)", x.told(6), 1);
        due.is("told(7)", x.told(7), 4);
        due.is("journal(0, 0)", x.journal(0, 0), 1);
        due.is("fault()", x.fault(), 7);
    }

    private static void refusals() {
        Watch x = busy("f1;w0;t1(w0;)", 3);
        x.keep(0);
        String before = Seen.all(x);
        for (int i : new int[] {-1, 2, 2147483647, -2147483648}) {
            due.is("keep(" + i + ")", x.keep(i), RaceWatch.UNKNOWN);
            due.is("goBack(" + i + ")", x.goBack(i), RaceWatch.UNKNOWN);
        }
        due.is("goBack(1)", x.goBack(1), RaceWatch.NOT);
        same("nothing changed", Seen.all(x), before);
    }
}
