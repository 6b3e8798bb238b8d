/** Objects in states at the document's edges, for tests that ask what is refused there. */
final class States {
    static final int GREATEST = 2147483647;

    private States() {
    }

    /**
     * THREADS 0 and 1 GO, 2 is DONE, 3 is NEW; 1 holds LOCK 1, nobody LOCKS 0 and 2. There are RACES, a SHARED CELL, entries
     * of THE JOURNAL, a FAULT, THE TEXT "r1;", IMAGE 0; IMAGE 1 was not kept.
     */
    static Watch busy() {
        return makeBusy(new Watch());
    }

    /** The same of one whose section 1 is as at first. */
    static Watch makeBusy(Watch x) {
        feed(x, "f1;f2;w0;t1(w0;r1;)t2(r1;p0;)j2;l2(w3;)x");
        x.run();
        x.keep(0);
        x.event(0, 1, 3);
        x.event(1, 2, 1);
        feed(x, "r1;");
        return x;
    }

    /** As busy(), with 160 EVENTS. */
    static Watch full() {
        return fill(busy());
    }

    /** As busy(); the own numbers of THREADS 0 and 1 are the greatest. */
    static Watch great() {
        return makeGreat(busy());
    }

    /** Both at once. */
    static Watch fullAndGreat() {
        return fill(makeGreat(busy()));
    }

    /** n EVENTS, all READ of CELL 0 by THREAD 0. */
    static Watch withReads(int n) {
        Watch x = new Watch();
        for (int e = 0; e < n; e++) {
            x.event(0, 0, 0);
        }
        return x;
    }

    /** READ of CELL 2 by THREAD 0, until there are 160 EVENTS. */
    static Watch fill(Watch x) {
        for (int e = x.told(0); e < 160; e++) {
            x.event(0, 0, 2);
        }
        return x;
    }

    static void feed(Watch x, String text) {
        for (int i = 0; i < text.length(); i++) {
            x.feed(text.charAt(i));
        }
    }

    static Watch makeGreat(Watch x) {
        for (int thread = 0; thread < 2; thread++) {
            x.jump(thread, GREATEST - x.clock(0, thread, thread));
        }
        return x;
    }
}
