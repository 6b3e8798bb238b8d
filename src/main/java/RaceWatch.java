import java.util.Arrays;

/** Runs of several threads watched for races. The words in capitals are those of the document, DOC.md. */
public final class RaceWatch {
    public static final int NONE = -1, UNKNOWN = -1000000001, OUTSIDE = -1000000002, NOT = -1000000003, FULL = -1000000004, MUCH = -1000000005;

    private static final int THREADS = 4, LOCKS = 3, CELLS = 4, SEEN_CELLS = 2, IMAGES = 2;
    private static final int ALL_LOCKS = 7;
    private static final int MOST_EVENTS = 160, MOST_LETTERS = 240, MOST_ENTRIES = 24;
    private static final int GREATEST = 2147483647;

    private static final int IS_NEW = 0, GOES = 1, IS_DONE = 2;

    private static final int READ = 0, WRITE = 1, TAKE = 2, LEAVE = 3, PUT = 4, GET = 5, FORK = 6, WAIT = 7;
    private static final int SORTS = 8;

    private static final int BOTH_WRITE = 0, EARLIER_WRITE = 1, EARLIER_READ = 2;
    private static final int KINDS = 3;

    private static final int NOTHING_REFUSED = 0;

    private final World world = new World();
    private final World[] images = {new World(), new World()};
    private final boolean[] isKept = new boolean[IMAGES];
    private final Telling telling = new Telling();

    public RaceWatch() {
    }

    // ---- runs

    public int anew() {
        int count = world.log.count;
        world.begin();
        return count;
    }

    public int feed(int letter) {
        if (letter < 0 || letter > 255) {
            return OUTSIDE;
        }
        return telling.append(letter);
    }

    public int run() {
        int before = world.log.count;
        int fault = telling.tell(world);
        return fault == Telling.NO_FAULT ? world.log.count - before : -10 - fault;
    }

    public int fault() {
        return telling.faultAt;
    }

    public int event(int thread, int sort, int with) {
        int refused = refusalOf(thread, sort, with);
        return refused == NOTHING_REFUSED ? world.come(thread, sort, with) : refused;
    }

    public int jump(int thread, int v) {
        if (!isIn(thread, THREADS)) {
            return UNKNOWN;
        }
        if (v < 1) {
            return OUTSIDE;
        }
        if (!world.goes(thread)) {
            return NOT;
        }
        int own = world.ofThreads.number(thread, thread);
        if (v > GREATEST - own) {
            return MUCH;
        }
        world.ofThreads.set(thread, thread, own + v);
        return own + v;
    }

    public int drift(int n, int seed) {
        if (n < 1 || n > 40 || seed < 1 || seed > 999999) {
            return OUTSIDE;
        }
        int before = world.log.count;
        long x = seed;
        for (int i = 0; i < n; i++) {
            x = lotBehind(x);
            int thread = (int) (x % THREADS);
            x = lotBehind(x);
            int sort = (int) (x % SORTS);
            x = lotBehind(x);
            int with = (int) (x % boundOf(sort));
            if (refusalOf(thread, sort, with) == NOTHING_REFUSED) {
                world.come(thread, sort, with);
            }
        }
        return world.log.count - before;
    }

    // ---- what is told

    public int told(int what) {
        switch (what) {
            case 0: return world.log.count;
            case 1: return world.threadsThat(GOES);
            case 2: return world.threadsThat(IS_DONE);
            case 3: return world.heldLocks();
            case 4: return world.log.cellsWithRace();
            case 5: return world.log.racesOfAll();
            case 6: return telling.length;
            case 7: return telling.book.count;
            case 8: return world.promotionsOfAll();
            default: return OUTSIDE;
        }
    }

    public int clock(int of, int k, int thread) {
        if (!isIn(thread, THREADS)) {
            return UNKNOWN;
        }
        // k names nothing while it is not known of what it is
        if (!isIn(of, 3)) {
            return OUTSIDE;
        }
        Clocks clocks = of == 0 ? world.ofThreads : of == 1 ? world.ofLocks : world.ofSeenCells;
        return isIn(k, clocks.rows) ? clocks.number(k, thread) : UNKNOWN;
    }

    public int eventOf(int e, int what) {
        Log log = world.log;
        if (!isIn(e, log.count)) {
            return UNKNOWN;
        }
        switch (what) {
            case 0: return log.threads[e];
            case 1: return log.sorts[e];
            case 2: return log.withs[e];
            case 3:
            case 4:
            case 5:
            case 6: return log.clocks.number(e, what - 3);
            case 7: return log.locks[e];
            default: return OUTSIDE;
        }
    }

    public int holder(int lock) {
        return isIn(lock, LOCKS) ? world.holders[lock] : UNKNOWN;
    }

    public int journal(int i, int what) {
        if (!isIn(what, 2)) {
            return OUTSIDE;
        }
        Book book = telling.book;
        if (!isIn(i, book.count)) {
            return NONE;
        }
        return what == 0 ? book.locks[i] : book.opened[i];
    }

    // ---- races

    public int ahead(int e, int f) {
        Log log = world.log;
        // two EVENTS are asked for, so one named twice is UNKNOWN too
        if (!isIn(e, log.count) || !isIn(f, log.count) || e == f) {
            return UNKNOWN;
        }
        return log.isAhead(e, f) ? 1 : 0;
    }

    public int races(int cell, int kind) {
        if (!isIn(cell, CELLS)) {
            return UNKNOWN;
        }
        if (!isIn(kind, KINDS + 1)) {
            return OUTSIDE;
        }
        return kind == KINDS ? world.log.racesOfCell(cell) : world.log.raceCounts[cell * KINDS + kind];
    }

    public int race(int cell, int k, int what) {
        if (!isIn(cell, CELLS)) {
            return UNKNOWN;
        }
        if (!isIn(what, 3) || k < 0) {
            return OUTSIDE;
        }
        return world.log.partOfRace(cell, k, what);
    }

    public int cell(int cell, int what) {
        if (!isIn(cell, CELLS)) {
            return UNKNOWN;
        }
        Kept kept = world.cells[cell];
        switch (what) {
            case 0: return kept.writer;
            case 1: return kept.writeNumber;
            case 2: return kept.reader;
            case 3: return kept.readNumber;
            case 4: return kept.isShared ? 1 : 0;
            case 5: return kept.promotions;
            case 6: return kept.firstEvent;
            case 7: return kept.firstKind;
            default: return OUTSIDE;
        }
    }

    public int shared(int cell, int thread) {
        if (!isIn(cell, CELLS) || !isIn(thread, THREADS)) {
            return UNKNOWN;
        }
        return world.cells[cell].readNumbers[thread];
    }

    public int would(int thread, int cell, boolean write) {
        if (!isIn(thread, THREADS) || !isIn(cell, CELLS)) {
            return UNKNOWN;
        }
        if (!world.goes(thread)) {
            return NOT;
        }
        return world.cells[cell].kindOf(write, world.ofThreads, thread);
    }

    public int guard(int cell) {
        return isIn(cell, CELLS) ? world.cells[cell].guards : UNKNOWN;
    }

    // ---- images

    public int keep(int i) {
        if (!isIn(i, IMAGES)) {
            return UNKNOWN;
        }
        images[i].copy(world);
        isKept[i] = true;
        return world.log.count;
    }

    public int goBack(int i) {
        if (!isIn(i, IMAGES)) {
            return UNKNOWN;
        }
        if (!isKept[i]) {
            return NOT;
        }
        world.copy(images[i]);
        return world.log.count;
    }

    private int refusalOf(int thread, int sort, int with) {
        if (!isIn(thread, THREADS)) {
            return UNKNOWN;
        }
        // what it is with names nothing while there is no such sort
        if (!isIn(sort, SORTS)) {
            return OUTSIDE;
        }
        if (!isIn(with, boundOf(sort)) || isItself(thread, sort, with)) {
            return UNKNOWN;
        }
        if (!world.canBe(thread, sort, with)) {
            return NOT;
        }
        if (!world.log.hasRoom(1)) {
            return FULL;
        }
        return world.stepIsMuch(thread, sort) ? MUCH : NOTHING_REFUSED;
    }

    private static boolean isIn(int number, int bound) {
        return number >= 0 && number < bound;
    }

    private static boolean isItself(int thread, int sort, int with) {
        return (sort == FORK || sort == WAIT) && with == thread;
    }

    private static int boundOf(int sort) {
        switch (sort) {
            case READ:
            case WRITE: return CELLS;
            case TAKE:
            case LEAVE: return LOCKS;
            case PUT:
            case GET: return SEEN_CELLS;
            default: return THREADS;
        }
    }

    private static long lotBehind(long x) {
        return x * 16807 % 2147483647;
    }

    /** Rows of numbers, in each row one for each THREAD. */
    private static final class Clocks {
        final int rows;
        private final int[] numbers;

        Clocks(int rows) {
            this.rows = Math.max(rows, 0);
            numbers = new int[this.rows * THREADS];
        }

        int number(int row, int thread) {
            return numbers[row * THREADS + thread];
        }

        void set(int row, int thread, int number) {
            numbers[row * THREADS + thread] = number;
        }

        void join(int row, Clocks other, int otherRow) {
            for (int t = 0; t < THREADS; t++) {
                set(row, t, Math.max(number(row, t), other.number(otherRow, t)));
            }
        }

        void copyRow(int row, Clocks other, int otherRow) {
            System.arraycopy(other.numbers, otherRow * THREADS, numbers, row * THREADS, THREADS);
        }

        void copyRows(Clocks other, int count) {
            System.arraycopy(other.numbers, 0, numbers, 0, count * THREADS);
        }

        void clear() {
            Arrays.fill(numbers, 0);
        }
    }

    /** What a CELL keeps as EVENTS come. */
    private static final class Kept {
        int writer, writeNumber;
        int reader, readNumber;
        boolean isShared;
        final int[] readNumbers = new int[THREADS];
        int promotions;
        int firstEvent, firstKind;
        int guards;

        void begin() {
            writer = NONE;
            writeNumber = 0;
            forgetReads();
            promotions = 0;
            firstEvent = NONE;
            firstKind = NONE;
            guards = ALL_LOCKS;
        }

        void copy(Kept other) {
            writer = other.writer;
            writeNumber = other.writeNumber;
            reader = other.reader;
            readNumber = other.readNumber;
            isShared = other.isShared;
            System.arraycopy(other.readNumbers, 0, readNumbers, 0, THREADS);
            promotions = other.promotions;
            firstEvent = other.firstEvent;
            firstKind = other.firstKind;
            guards = other.guards;
        }

        /** The KIND by which an access RACES with what is kept. */
        int kindOf(boolean isWrite, Clocks clocks, int thread) {
            boolean writeIsAhead = writer == NONE || clocks.number(thread, writer) >= writeNumber;
            if (!isWrite) {
                return writeIsAhead ? NONE : EARLIER_WRITE;
            }
            if (!writeIsAhead) {
                return BOTH_WRITE;
            }
            return readsAreAhead(clocks, thread) ? NONE : EARLIER_READ;
        }

        void access(boolean isWrite, Clocks clocks, int thread, int number, int locks) {
            int kind = kindOf(isWrite, clocks, thread);
            if (kind != NONE && firstEvent == NONE) {
                firstEvent = number;
                firstKind = kind;
            }
            guards &= locks;
            if (isWrite) {
                writer = thread;
                writeNumber = clocks.number(thread, thread);
                forgetReads();
            } else {
                keepRead(clocks, thread);
            }
        }

        private boolean readsAreAhead(Clocks clocks, int thread) {
            if (!isShared) {
                return reader == NONE || clocks.number(thread, reader) >= readNumber;
            }
            for (int t = 0; t < THREADS; t++) {
                if (clocks.number(thread, t) < readNumbers[t]) {
                    return false;
                }
            }
            return true;
        }

        private void keepRead(Clocks clocks, int thread) {
            int own = clocks.number(thread, thread);
            if (isShared) {
                readNumbers[thread] = own;
            } else if (readsAreAhead(clocks, thread)) {
                reader = thread;
                readNumber = own;
            } else {
                share(thread, own);
            }
        }

        private void share(int thread, int own) {
            readNumbers[reader] = readNumber;
            readNumbers[thread] = own;
            reader = NONE;
            readNumber = 0;
            isShared = true;
            promotions++;
        }

        private void forgetReads() {
            reader = NONE;
            readNumber = 0;
            isShared = false;
            Arrays.fill(readNumbers, 0);
        }
    }

    /** The EVENTS that came, and the RACES among them. */
    private static final class Log {
        int count;
        final int[] threads = new int[MOST_EVENTS];
        final int[] sorts = new int[MOST_EVENTS];
        final int[] withs = new int[MOST_EVENTS];
        final int[] locks = new int[MOST_EVENTS];
        final Clocks clocks = new Clocks(MOST_EVENTS);
        /** For each access the RACES in which it is the later. */
        final int[] racesBehind = new int[MOST_EVENTS];
        /** For each CELL and each KIND. */
        final int[] raceCounts = new int[CELLS * KINDS];

        void begin() {
            count = 0;
            Arrays.fill(raceCounts, 0);
        }

        void copy(Log other) {
            count = other.count;
            System.arraycopy(other.threads, 0, threads, 0, count);
            System.arraycopy(other.sorts, 0, sorts, 0, count);
            System.arraycopy(other.withs, 0, withs, 0, count);
            System.arraycopy(other.locks, 0, locks, 0, count);
            clocks.copyRows(other.clocks, count);
            System.arraycopy(other.racesBehind, 0, racesBehind, 0, count);
            System.arraycopy(other.raceCounts, 0, raceCounts, 0, CELLS * KINDS);
        }

        boolean hasRoom(int more) {
            return count + more <= MOST_EVENTS;
        }

        /** The caller has looked that there is room. */
        int append(int thread, int sort, int with, int heldLocks, Clocks ofThreads) {
            int e = count;
            threads[e] = thread;
            sorts[e] = sort;
            withs[e] = with;
            locks[e] = heldLocks;
            clocks.copyRow(e, ofThreads, thread);
            count++;
            return e;
        }

        boolean isAhead(int e, int f) {
            int t = threads[e];
            return e < f && clocks.number(f, t) >= clocks.number(e, t);
        }

        int racesOfCell(int cell) {
            int sum = 0;
            for (int kind = 0; kind < KINDS; kind++) {
                sum += raceCounts[cell * KINDS + kind];
            }
            return sum;
        }

        int racesOfAll() {
            int sum = 0;
            for (int cell = 0; cell < CELLS; cell++) {
                sum += racesOfCell(cell);
            }
            return sum;
        }

        int cellsWithRace() {
            int set = 0;
            for (int cell = 0; cell < CELLS; cell++) {
                if (racesOfCell(cell) > 0) {
                    set |= 1 << cell;
                }
            }
            return set;
        }

        /** RACE k of a CELL: the earlier (0), the later (1), the KIND (2). */
        int partOfRace(int cell, int k, int what) {
            int left = k;
            for (int later = 0; later < count; later++) {
                if (isAccess(later) && withs[later] == cell) {
                    if (left < racesBehind[later]) {
                        int earlier = earlierOf(later, left);
                        return what == 0 ? earlier : what == 1 ? later : kindOfPair(earlier, later);
                    }
                    left -= racesBehind[later];
                }
            }
            return NONE;
        }

        private int earlierOf(int later, int k) {
            int left = k;
            for (int e = 0; e < later; e++) {
                if (kindOfPair(e, later) != NONE) {
                    if (left == 0) {
                        return e;
                    }
                    left--;
                }
            }
            return NONE;
        }

        void countRaces(int later) {
            int found = 0;
            for (int e = 0; e < later; e++) {
                int kind = kindOfPair(e, later);
                if (kind != NONE) {
                    raceCounts[withs[later] * KINDS + kind]++;
                    found++;
                }
            }
            racesBehind[later] = found;
        }

        private boolean isAccess(int e) {
            return sorts[e] == READ || sorts[e] == WRITE;
        }

        /** The KIND of the RACE of two EVENTS; NONE, if they make none. */
        private int kindOfPair(int earlier, int later) {
            if (!isAccess(earlier) || !isAccess(later) || withs[earlier] != withs[later]) {
                return NONE;
            }
            if (threads[earlier] == threads[later] || isAhead(earlier, later)) {
                return NONE;
            }
            if (sorts[earlier] == WRITE) {
                return sorts[later] == WRITE ? BOTH_WRITE : EARLIER_WRITE;
            }
            return sorts[later] == WRITE ? EARLIER_READ : NONE;
        }
    }

    /** All of section 1 of the document: what an IMAGE keeps. */
    private static final class World {
        final int[] states = new int[THREADS];
        final int[] holders = new int[LOCKS];
        final Clocks ofThreads = new Clocks(THREADS);
        final Clocks ofLocks = new Clocks(LOCKS);
        final Clocks ofSeenCells = new Clocks(SEEN_CELLS);
        final Kept[] cells = {new Kept(), new Kept(), new Kept(), new Kept()};
        final Log log = new Log();

        World() {
            begin();
        }

        void begin() {
            Arrays.fill(states, IS_NEW);
            states[0] = GOES;
            Arrays.fill(holders, NONE);
            ofThreads.clear();
            for (int t = 0; t < THREADS; t++) {
                ofThreads.set(t, t, 1);
            }
            ofLocks.clear();
            ofSeenCells.clear();
            for (int c = 0; c < CELLS; c++) {
                cells[c].begin();
            }
            log.begin();
        }

        void copy(World other) {
            System.arraycopy(other.states, 0, states, 0, THREADS);
            System.arraycopy(other.holders, 0, holders, 0, LOCKS);
            ofThreads.copyRows(other.ofThreads, THREADS);
            ofLocks.copyRows(other.ofLocks, LOCKS);
            ofSeenCells.copyRows(other.ofSeenCells, SEEN_CELLS);
            for (int c = 0; c < CELLS; c++) {
                cells[c].copy(other.cells[c]);
            }
            log.copy(other.log);
        }

        boolean goes(int thread) {
            return states[thread] == GOES;
        }

        int threadsThat(int state) {
            int set = 0;
            for (int t = 0; t < THREADS; t++) {
                if (states[t] == state) {
                    set |= 1 << t;
                }
            }
            return set;
        }

        int heldLocks() {
            int set = 0;
            for (int t = 0; t < THREADS; t++) {
                set |= locksOf(t);
            }
            return set;
        }

        int promotionsOfAll() {
            int sum = 0;
            for (int c = 0; c < CELLS; c++) {
                sum += cells[c].promotions;
            }
            return sum;
        }

        /** Whether an EVENT is not refused as NOT. */
        boolean canBe(int thread, int sort, int with) {
            if (!goes(thread)) {
                return false;
            }
            switch (sort) {
                case TAKE: return holders[with] == NONE;
                case LEAVE: return holders[with] == thread;
                case FORK: return states[with] == IS_NEW;
                case WAIT: return with != thread && goes(with) && locksOf(with) == 0;
                default: return true;
            }
        }

        boolean stepIsMuch(int thread, int sort) {
            boolean makesStep = sort == LEAVE || sort == PUT || sort == FORK;
            return makesStep && ofThreads.number(thread, thread) == GREATEST;
        }

        /** An EVENT that nothing refuses comes: its number. */
        int come(int thread, int sort, int with) {
            if (!log.hasRoom(1)) {
                return FULL;
            }
            takeIn(thread, sort, with);
            int held = locksOf(thread);
            int number = log.append(thread, sort, with, held, ofThreads);
            if (sort == READ || sort == WRITE) {
                log.countRaces(number);
                cells[with].access(sort == WRITE, ofThreads, thread, number, held);
            }
            handOn(thread, sort, with);
            return number;
        }

        /** What has to be done ahead of the CLOCK and the LOCKS that the EVENT keeps. */
        private void takeIn(int thread, int sort, int with) {
            switch (sort) {
                case TAKE:
                    ofThreads.join(thread, ofLocks, with);
                    holders[with] = thread;
                    break;
                case LEAVE:
                    holders[with] = NONE;
                    break;
                case GET:
                    ofThreads.join(thread, ofSeenCells, with);
                    break;
                case WAIT:
                    ofThreads.join(thread, ofThreads, with);
                    states[with] = IS_DONE;
                    break;
                default:
                    break;
            }
        }

        private void handOn(int thread, int sort, int with) {
            switch (sort) {
                case LEAVE:
                    ofLocks.copyRow(with, ofThreads, thread);
                    makeStep(thread);
                    break;
                case PUT:
                    ofSeenCells.join(with, ofThreads, thread);
                    makeStep(thread);
                    break;
                case FORK:
                    ofThreads.join(with, ofThreads, thread);
                    states[with] = GOES;
                    makeStep(thread);
                    break;
                default:
                    break;
            }
        }

        /** LEAVE of a REGION comes even where there is no number left for the STEP. */
        private void makeStep(int thread) {
            int own = ofThreads.number(thread, thread);
            if (own < GREATEST) {
                ofThreads.set(thread, thread, own + 1);
            }
        }

        private int locksOf(int thread) {
            int set = 0;
            for (int lock = 0; lock < LOCKS; lock++) {
                if (holders[lock] == thread) {
                    set |= 1 << lock;
                }
            }
            return set;
        }
    }

    /** THE JOURNAL, the latest entry first. */
    private static final class Book {
        int count;
        final int[] locks = new int[MOST_ENTRIES];
        final int[] opened = new int[MOST_ENTRIES];

        void enter(int lock, int isOpened) {
            System.arraycopy(locks, 0, locks, 1, MOST_ENTRIES - 1);
            System.arraycopy(opened, 0, opened, 1, MOST_ENTRIES - 1);
            locks[0] = lock;
            opened[0] = isOpened;
            count = Math.min(count + 1, MOST_ENTRIES);
        }
    }

    /** THE TEXT, and how it is RUN letter by letter. */
    private static final class Telling {
        static final int NO_FAULT = 0;
        private static final int CANNOT_STAND = 1, OUT_OF_BOUNDS = 2, NO_ROOM = 3, CANNOT_BE = 4;
        private static final int ITEM_DUE = 0, NUMBER_DUE = 1, END_DUE = 2, BRACKET_DUE = 3;
        /** 't' stands among the sorts of EVENTS, though none comes by it. */
        private static final int HAND_OVER = SORTS;

        int length;
        int faultAt = NONE;
        final Book book = new Book();
        private final int[] letters = new int[MOST_LETTERS];

        private int due;
        private int item;
        private int threadAtIt;
        private int openRegions;
        private int depth;
        /** For each open bracket the LOCK of its REGION, or NONE, and who was at it ahead of the bracket. */
        private final int[] lockOf = new int[MOST_LETTERS];
        private final int[] threadBefore = new int[MOST_LETTERS];

        int append(int letter) {
            if (length >= MOST_LETTERS) {
                return FULL;
            }
            letters[length] = letter;
            length++;
            return length;
        }

        /** The number of the FAULT. */
        int tell(World world) {
            due = ITEM_DUE;
            threadAtIt = 0;
            openRegions = 0;
            depth = 0;
            int fault = NO_FAULT;
            int next = 0;
            while (next < length && fault == NO_FAULT) {
                int letter = letters[next];
                next++;
                if (letter == ' ') {
                    continue;
                }
                if (due == NUMBER_DUE) {
                    fault = faultOfFigure(letter);
                    if (fault == NO_FAULT) {
                        fault = item == HAND_OVER ? tellThread(letter - '0', world) : tellEvent(letter - '0', world);
                    }
                } else if (due == ITEM_DUE && letter == ')' && depth > 0) {
                    shutLast(world);
                } else {
                    fault = tellSign(letter);
                }
            }
            faultAt = fault == NO_FAULT ? NONE : next - 1;
            if (fault == NO_FAULT && (due != ITEM_DUE || depth > 0)) {
                fault = CANNOT_STAND;
                faultAt = length;
            }
            for (int open = depth; open > 0; open--) {
                shutLast(world);
            }
            length = 0;
            return fault;
        }

        private int faultOfFigure(int letter) {
            if (letter < '0' || letter > '9') {
                return CANNOT_STAND;
            }
            return letter - '0' < boundOf(item) ? NO_FAULT : OUT_OF_BOUNDS;
        }

        private int tellSign(int letter) {
            if (due == ITEM_DUE) {
                item = itemOf(letter);
                due = NUMBER_DUE;
                return item == NONE ? CANNOT_STAND : NO_FAULT;
            }
            int sign = due == END_DUE ? ';' : '(';
            due = ITEM_DUE;
            return letter == sign ? NO_FAULT : CANNOT_STAND;
        }

        private int tellThread(int thread, World world) {
            if (!world.goes(thread)) {
                return CANNOT_BE;
            }
            open(NONE);
            threadAtIt = thread;
            due = BRACKET_DUE;
            return NO_FAULT;
        }

        private int tellEvent(int with, World world) {
            int withItsLeave = item == TAKE ? 2 : 1;
            if (!world.log.hasRoom(withItsLeave + openRegions)) {
                return NO_ROOM;
            }
            if (!world.canBe(threadAtIt, item, with) || world.stepIsMuch(threadAtIt, item)) {
                return CANNOT_BE;
            }
            world.come(threadAtIt, item, with);
            if (item != TAKE) {
                due = END_DUE;
                return NO_FAULT;
            }
            open(with);
            openRegions++;
            book.enter(with, 1);
            due = BRACKET_DUE;
            return NO_FAULT;
        }

        /** Each bracket has a letter of its own, so there are never more of them than letters. */
        private void open(int lock) {
            if (depth < MOST_LETTERS) {
                lockOf[depth] = lock;
                threadBefore[depth] = threadAtIt;
                depth++;
            }
        }

        /** The caller has looked that a bracket is open. */
        private void shutLast(World world) {
            depth--;
            threadAtIt = threadBefore[depth];
            int lock = lockOf[depth];
            if (lock != NONE) {
                world.come(threadAtIt, LEAVE, lock);
                openRegions--;
                book.enter(lock, 0);
            }
        }

        private static int itemOf(int letter) {
            switch (letter) {
                case 'r': return READ;
                case 'w': return WRITE;
                case 'p': return PUT;
                case 'g': return GET;
                case 'f': return FORK;
                case 'j': return WAIT;
                case 'l': return TAKE;
                case 't': return HAND_OVER;
                default: return NONE;
            }
        }
    }
}
