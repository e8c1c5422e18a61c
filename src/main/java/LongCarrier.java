import java.util.Arrays;

/** Carries blocks of bytes over a long delay; DOC.md tells what each call does. */
public final class LongCarrier {
    public static final int NONE = -1;

    private static final int OTHER = -2;
    private static final int LAST_CLOCK = 9999;
    private static final int MOST_BLOCKS = 3;
    private static final int MOST_LENGTH = 30;
    private static final int ALL_BITS = (1 << MOST_LENGTH) - 1;
    private static final int MOST_DELAY = 20;
    private static final int MOST_SIZE = 9;
    private static final int MOST_TRIES = 9;
    private static final int MOST_PERIOD = 60;
    private static final int MOST_WAITS = 60;
    private static final int MOST_TICKS = 30;
    private static final int MOST_FAR_TICKS = 400;
    private static final int MOST_OUT = 24;
    private static final int MOST_FLIGHT = 2 * MOST_DELAY;
    private static final int MOST_TIMERS = 16;
    private static final int MOST_BOOK = 25;
    private static final int MOST_STEPS = 30;
    private static final int MOST_TEXTS = 4;
    private static final int MOST_BYTES = 300;
    private static final int MOST_CLAUSES = 24;
    private static final int MOST_OPEN = 8;
    private static final int MOST_SAID = 8;
    private static final int MOST_ODDS = 18;
    private static final int MOST_VALUE = 1000000;
    private static final int DRAW = 10;
    private static final int LOSES_WITHOUT = 2;
    private static final int FIRST_X = 491;
    private static final int ANY = -1;
    private static final int LAST_SERIAL = 2147483647;

    // kinds of messages
    private static final int DATA = 0;
    private static final int REPORT = 1;
    private static final int REPORT_ANSWER = 2;
    private static final int CANCELLING = 3;
    private static final int CANCELLING_ANSWER = 4;

    // how a block is
    private static final int IS_NEW = 0;
    private static final int IS_OPEN = 1;
    private static final int IS_DONE = 2;
    private static final int IS_CANCELLED = 3;

    // what the book tells
    private static final int BOOK_OPENED = 0;
    private static final int BOOK_DONE = 1;
    private static final int BOOK_CANCELLED = 2;
    private static final int BOOK_LOST = 4;
    private static final int BOOK_RUNG = 5;
    private static final int BOOK_WIDTH = 4;

    // columns of a message; the last two are for those in flight and for timers alone
    private static final int KIND = 0;
    private static final int BLOCK = 1;
    private static final int SERIAL = 2;
    private static final int FROM = 3;
    private static final int TO = 4;
    private static final int CLAIMS = 5;
    private static final int TRIED = 6;
    private static final int WHEN = 7;
    private static final int SIDE = 8;
    private static final int OUT_WIDTH = 7;
    private static final int FLIGHT_WIDTH = 9;
    private static final int[] TIMER_COLUMNS = {SIDE, KIND, BLOCK, SERIAL, WHEN, TRIED};

    // columns of a block
    private static final int AT_0 = 0;
    private static final int AT_1 = 1;
    private static final int CLAIMED = 2;
    private static final int COME = 3;
    private static final int CHECKPOINTS = 4;
    private static final int REPORTS = 5;
    private static final int BYTES_SENT = 6;
    private static final int BLOCK_WIDTH = 7;

    // words by their place in WORDS; those that begin a clause stand first, the names last
    private static final String WORDS =
        "loses waits block open cancel day of by claimed come if then else end or and not clock sun kind number delay bytes tried ";
    private static final int W_LOSES = 0;
    private static final int W_WAITS = 1;
    private static final int W_BLOCK = 2;
    private static final int W_OPEN = 3;
    private static final int W_CANCEL = 4;
    private static final int W_DAY = 5;
    private static final int W_OF = 6;
    private static final int W_BY = 7;
    private static final int W_CLAIMED = 8;
    private static final int W_COME = 9;
    private static final int W_IF = 10;
    private static final int W_THEN = 11;
    private static final int W_ELSE = 12;
    private static final int W_END = 13;
    private static final int W_OR = 14;
    private static final int W_AND = 15;
    private static final int W_NOT = 16;
    private static final int W_CLOCK = 17;
    private static final int W_SUN = 18;
    private static final int W_KIND = 19;
    private static final int W_NUMBER = 20;
    private static final int W_DELAY = 21;
    private static final int W_BYTES = 22;
    private static final int W_TRIED = 23;

    // signs by their place in SIGNS, behind the words
    private static final String SIGNS = "<>=#+-*/();";
    private static final int SIGNS_FROM = 30;
    private static final int BELOW = 30;
    private static final int ABOVE = 31;
    private static final int EQUAL = 32;
    private static final int UNLIKE = 33;
    private static final int PLUS = 34;
    private static final int MINUS = 35;
    private static final int TIMES = 36;
    private static final int CUT = 37;
    private static final int BRACKET = 38;
    private static final int BRACKET_END = 39;
    private static final int STOP = 40;
    private static final int AT_MOST = 41;
    private static final int AT_LEAST = 42;

    private static final int FIGURE = 50;
    private static final int TEXT_END = 51;
    private static final int NO_TOKEN = 52;

    // orders of a law that no token stands for; all others are named by their token
    private static final int NEGATE = 60;
    private static final int UNLESS = 61;
    private static final int SKIP = 62;

    private static final int NO_FAULT = 0;
    private static final int FAULT_PLACE = 1;
    private static final int FAULT_NUMBER = 2;
    private static final int FAULT_DEPTH = 3;
    private static final int FAULT_TWICE = 4;
    private static final int FAULT_NAME = 5;
    private static final int FAULT_CLAUSES = 6;

    private static final int[] NO_CODE = {};

    private final Standing all;
    private final Standing kept;
    private final Told told;
    private final State now;
    private final Engine engine;
    private final Engine trial;
    private final Reader reader;
    private final int[] tape;
    private int tapeLength;
    private int faultSort;
    private int faultPlace;

    public LongCarrier() {
        all = new Standing();
        kept = new Standing();
        told = all.told;
        now = all.now;
        engine = new Engine(told, now);
        trial = new Engine(told, new State());
        reader = new Reader();
        tape = new int[MOST_BYTES];
        faultSort = NONE;
        faultPlace = NONE;
    }

    // ---- what is told

    public int block(int length, int red) {
        return told.addBlock(length, red);
    }

    public boolean window(int period, int from, int to) {
        if (period < 1 || period > MOST_PERIOD || from < 0 || from >= to || to > period) return false;
        told.period = period;
        told.from = from;
        told.to = to;
        return true;
    }

    public boolean delay(int n) {
        if (n < 1 || n > MOST_DELAY) return false;
        told.ticksUnderWay = n;
        return true;
    }

    public boolean size(int n) {
        if (n < 1 || n > MOST_SIZE) return false;
        told.pieceSize = n;
        return true;
    }

    public boolean tries(int n) {
        if (n < 0 || n > MOST_TRIES) return false;
        told.mostTries = n;
        return true;
    }

    public int feed(int a, int b, int c, int d, int e) {
        if (tapeLength + 20 > MOST_BYTES) return NONE;
        feedFour(a);
        feedFour(b);
        feedFour(c);
        feedFour(d);
        feedFour(e);
        return tapeLength;
    }

    private void feedFour(int bytes) {
        for (int shift = 24; shift >= 0; shift -= 8) {
            if (tapeLength < 0 || tapeLength >= tape.length) return;
            tape[tapeLength] = bytes >>> shift & 255;
            tapeLength++;
        }
    }

    public int end(int n) {
        if (n < 0 || n > tapeLength) return NONE;
        tapeLength = n;
        return n;
    }

    public int text() {
        if (told.textCount >= MOST_TEXTS) return NONE;
        Text read = reader.read(tape, tapeLength);
        tapeLength = 0;
        faultSort = reader.faultSort;
        faultPlace = reader.faultPlace;
        return read == null ? NONE : told.addText(read);
    }

    public int fault(int what) {
        if (what == 0) return faultSort;
        if (what == 1) return faultPlace;
        return NONE;
    }

    public boolean by(int text) {
        if (text < NONE || text >= told.textCount) return false;
        told.ruling = text;
        return true;
    }

    public int said(int kind, int loses) {
        if (kind == NONE) {
            told.saidCount = 0;
            return 0;
        }
        if (kind < DATA || kind > CANCELLING_ANSWER || loses < 0 || loses > DRAW) return OTHER;
        return told.addSaid(kind, loses);
    }

    // ---- steps

    public int open(int block) {
        if (!isNew(block)) return NONE;
        all.remember();
        return engine.openBlock(block);
    }

    public boolean cancel(int block, int side) {
        if (side < 0 || side > 1 || !engine.canCancel(block, side)) return false;
        all.remember();
        engine.cancelBy(block, side);
        return true;
    }

    public int day(int n) {
        if (n < 1 || n > MOST_TICKS || n > LAST_CLOCK - now.clock) return NONE;
        int before = now.sent;
        pass(n);
        return now.sent - before;
    }

    private void pass(int n) {
        for (int i = 0; i < n; i++) {
            all.remember();
            engine.tick();
        }
    }

    public int played(int text) {
        Text script = told.textAt(text);
        if (script == null) return OTHER;
        for (int i = 0; i < script.clauseCount(); i++) {
            int first = script.clause(i, 1);
            int second = script.clause(i, 2);
            boolean can = true;
            switch (script.clause(i, 0)) {
                case W_BLOCK: can = block(second, first) != NONE; break;
                case W_OPEN: can = open(first) != NONE; break;
                case W_CANCEL: can = cancel(first, second); break;
                case W_DAY:
                    can = first <= LAST_CLOCK - now.clock;
                    pass(Math.min(first, LAST_CLOCK - now.clock));
                    break;
                default: break;
            }
            if (!can) return i;
        }
        return NONE;
    }

    public int years(int seed, int n) {
        if (seed < 0 || seed > LAST_CLOCK || n < 1 || n > 40) return NONE;
        all.remember();
        now.x = seed * 2 + FIRST_X;
        for (int i = 0; i < n; i++) drawYear();
        return now.clock;
    }

    private void drawYear() {
        int x = now.x;
        now.stir();
        int block = x / 8 % MOST_BLOCKS;
        int side = x / 16 % 2;
        switch (x % 8) {
            case 0:
                if (isNew(block)) engine.openBlock(block);
                break;
            case 1:
                if (x % 3 == 0 && engine.canCancel(block, side)) engine.cancelBy(block, side);
                break;
            default:
                if (now.clock < LAST_CLOCK) engine.tick();
                break;
        }
    }

    public int undo() {
        return all.takeBack();
    }

    // ---- how it stands

    public int of(int block, int what) {
        return reading(now, block, what);
    }

    private int reading(State state, int block, int what) {
        if (!told.hasBlock(block)) return OTHER;
        Rows blocks = state.blocks;
        switch (what) {
            case 0: return told.lengthOf(block);
            case 1: return told.redOf(block);
            case 2: return blocks.get(block, AT_0);
            case 3: return blocks.get(block, AT_1);
            case 4: return Integer.bitCount(blocks.get(block, CLAIMED));
            case 5: return Integer.bitCount(blocks.get(block, COME));
            case 6: return blocks.get(block, CHECKPOINTS);
            case 7: return blocks.get(block, REPORTS);
            case 8: return blocks.get(block, BYTES_SENT);
            default: return OTHER;
        }
    }

    public int claims(int block, int i, boolean to) {
        if (!told.hasBlock(block)) return OTHER;
        return spanOf(now.blocks.get(block, CLAIMED), i, to);
    }

    public int gaps(int block, int i, boolean to) {
        if (!told.hasBlock(block)) return OTHER;
        return spanOf(Bits.first(told.redOf(block)) & ~now.blocks.get(block, CLAIMED), i, to);
    }

    public int come(int block, int i, boolean to) {
        if (!told.hasBlock(block)) return OTHER;
        return spanOf(now.blocks.get(block, COME), i, to);
    }

    private int spanOf(int bits, int i, boolean to) {
        if (i == NONE) return spans(bits);
        int edge = span(bits, i, to);
        return edge == NONE ? OTHER : edge;
    }

    public int out(int side, int i, int what) {
        if (side < 0 || side > 1) return OTHER;
        return now.line(side).countOrCell(i, what);
    }

    public int flight(int i, int what) {
        return now.flight.countOrCell(i, what);
    }

    public int timer(int i, int what) {
        if (i == NONE) return now.timers.count;
        if (what < 0 || what >= TIMER_COLUMNS.length) return OTHER;
        return now.timers.get(i, TIMER_COLUMNS[what]);
    }

    public int is(int what) {
        switch (what) {
            case 0: return now.clock;
            case 1: return now.x;
            case 2: return now.sun;
            case 3: return now.sent;
            case 4: return now.lost;
            default: return OTHER;
        }
    }

    public int book(int i, int what) {
        return now.book.countOrCell(i, what);
    }

    public int about(int what) {
        switch (what) {
            case 0: return told.blockCount;
            case 1: return told.textCount;
            case 2: return told.ruling;
            case 3: return all.stepCount;
            case 4: return told.saidCount;
            case 5: return tapeLength;
            case 6: return told.ticksUnderWay;
            case 7: return told.pieceSize;
            case 8: return told.mostTries;
            default: return OTHER;
        }
    }

    public boolean whole(int block) {
        if (!told.hasBlock(block)) return false;
        return (Bits.first(told.redOf(block)) & ~now.blocks.get(block, COME)) == 0;
    }

    public int resent(int block) {
        if (!told.hasBlock(block)) return NONE;
        return Math.max(0, now.blocks.get(block, BYTES_SENT) - told.lengthOf(block));
    }

    public boolean idle() {
        return now.line(0).count == 0 && now.line(1).count == 0 && now.flight.count == 0 && now.timers.count == 0;
    }

    public int live() {
        int bits = 0;
        for (int block = 0; block < told.blockCount; block++) {
            boolean lives = now.blocks.get(block, AT_0) == IS_OPEN && now.blocks.get(block, AT_1) != IS_CANCELLED;
            if (lives) bits |= 1 << block;
        }
        return bits;
    }

    public int soonest() {
        int soonest = NONE;
        for (int i = 0; i < now.flight.count; i++) {
            int when = now.flight.get(i, WHEN);
            if (soonest == NONE || when < soonest) soonest = when;
        }
        return soonest;
    }

    public int busiest() {
        int busiest = NONE;
        int most = 0;
        for (int block = 0; block < told.blockCount; block++) {
            int messages = now.line(0).countOf(BLOCK, block) + now.line(1).countOf(BLOCK, block)
                + now.flight.countOf(BLOCK, block);
            if (messages > most) {
                most = messages;
                busiest = block;
            }
        }
        return busiest;
    }

    public boolean honest() {
        for (int block = 0; block < told.blockCount; block++) {
            if ((now.blocks.get(block, CLAIMED) & ~now.blocks.get(block, COME)) != 0) return false;
        }
        return true;
    }

    public int ledger(int what) {
        if (what < BOOK_OPENED || what > BOOK_RUNG) return OTHER;
        return now.book.countOf(1, what);
    }

    // ---- what is to come

    public boolean seen(int n) {
        return n >= 0 && n <= 999 && told.sees(now.clock + n);
    }

    public int until(int n) {
        if (n < 0 || n > MOST_PERIOD) return NONE;
        return told.ticksForSun(now.clock, n);
    }

    public int next(int side) {
        if (side < 0 || side > 1 || now.line(side).count == 0) return NONE;
        return told.ticksToSeen(now.clock);
    }

    public int round() {
        int sent = now.clock + told.ticksToSeen(now.clock);
        int there = sent + told.ticksUnderWay;
        int sentBack = there + told.ticksToSeen(there);
        return sentBack + told.ticksUnderWay - now.clock;
    }

    public int rings(int i) {
        if (i < 0 || i >= now.timers.count) return NONE;
        return told.ticksForSun(now.clock, Math.max(1, now.timers.get(i, WHEN) - now.sun));
    }

    public int foretold(int n, int block, int what) {
        if (n < 1 || n > 60 || !told.hasBlock(block)) return OTHER;
        trial.now.copyFrom(now);
        int can = Math.min(n, LAST_CLOCK - now.clock);
        for (int i = 0; i < can; i++) trial.tick();
        return reading(trial.now, block, what);
    }

    public int till(int block) {
        if (!told.hasBlock(block) || now.blocks.get(block, AT_0) != IS_OPEN) return NONE;
        trial.now.copyFrom(now);
        return trial.ticksTillEnd(block);
    }

    public int ideal(int block) {
        if (!isNew(block)) return NONE;
        trial.now.copyFrom(now);
        trial.drawing = false;
        trial.openBlock(block);
        int ticks = trial.ticksTillEnd(block);
        trial.drawing = true;
        return ticks;
    }

    private boolean isNew(int block) {
        return told.hasBlock(block) && now.blocks.get(block, AT_0) == IS_NEW;
    }

    // ---- bits

    public int spans(int bits) {
        return Bits.fits(bits) ? Bits.pieceCount(bits, MOST_LENGTH) : NONE;
    }

    public int span(int bits, int i, boolean to) {
        return Bits.fits(bits) ? Bits.pieceEdge(bits, MOST_LENGTH, i, to) : NONE;
    }

    public int within(int bits, int from, int to) {
        if (!Bits.fits(bits) || from < 0 || from > to || to > MOST_LENGTH) return NONE;
        return bits & Bits.between(from, to);
    }

    public int pieces(int bits) {
        return Bits.fits(bits) ? Bits.pieceCount(bits, told.pieceSize) : NONE;
    }

    public int piece(int bits, int i, boolean to) {
        return Bits.fits(bits) ? Bits.pieceEdge(bits, told.pieceSize, i, to) : NONE;
    }

    public int join(int a, int b) {
        return Bits.fits(a) && Bits.fits(b) ? a | b : NONE;
    }

    public int less(int a, int b) {
        return Bits.fits(a) && Bits.fits(b) ? a & ~b : NONE;
    }

    public int longest(int bits) {
        return Bits.fits(bits) ? Bits.longestRun(bits) : NONE;
    }

    // ---- laws

    public int loses(int block, int kind) {
        if (!told.hasBlock(block) || kind < DATA || kind > CANCELLING_ANSWER) return NONE;
        return engine.law.losing(told.rulingText(), kind, block, 0);
    }

    public int waits(int block, int kind, int tried) {
        if (!told.hasBlock(block) || kind < DATA || kind > CANCELLING_ANSWER) return NONE;
        if (tried < 0 || tried > MOST_TRIES) return NONE;
        return engine.law.waiting(told.rulingText(), kind, block, tried);
    }

    public int whose() {
        int bits = 0;
        for (int text = 0; text < told.textCount; text++) {
            if (saysAll(told.textAt(text))) bits |= 1 << text;
        }
        return bits;
    }

    private boolean saysAll(Text text) {
        for (int i = 0; i < told.saidCount; i++) {
            int kind = told.saidKind(i);
            if (engine.law.losing(text, kind, 0, 0) != told.saidLoses(i)) return false;
        }
        return true;
    }

    public long odds(int block, boolean low) {
        if (!isNew(block)) return NONE;
        int red = Bits.first(told.redOf(block));
        int count = Bits.pieceCount(red, told.pieceSize);
        if (count > MOST_ODDS) return NONE;
        long upper = 1;
        long lower = 1;
        for (int i = 0; i < count; i++) {
            int bytes = Bits.pieceEdge(red, told.pieceSize, i, true) - Bits.pieceEdge(red, told.pieceSize, i, false);
            upper *= DRAW - engine.law.losing(told.rulingText(), DATA, block, bytes);
            lower *= DRAW;
        }
        long common = commonDivisor(upper, lower);
        if (common < 1) return NONE;
        return (low ? lower : upper) / common;
    }

    private static long commonDivisor(long a, long b) {
        long left = a;
        long right = b;
        // two numbers below 2^63 need fewer than a hundred such steps
        for (int i = 0; i < 200; i++) {
            if (left == 0) return right;
            long rest = right % left;
            right = left;
            left = rest;
        }
        return 1;
    }

    // ---- the image

    public int image() {
        kept.copyFrom(all);
        return now.clock;
    }

    public int back() {
        all.copyFrom(kept);
        return now.clock;
    }

    /** Bytes as bits, in runs that are cut into pieces; a run uncut is a piece of the greatest size. */
    private static final class Bits {
        static boolean fits(int bits) {
            return bits >= 0 && bits <= ALL_BITS;
        }

        static int first(int n) {
            if (n <= 0) return 0;
            return n >= MOST_LENGTH ? ALL_BITS : (1 << n) - 1;
        }

        static int between(int from, int to) {
            return first(to) & ~first(from);
        }

        static int nextFrom(int bits, int start) {
            for (int at = Math.max(0, start); at < MOST_LENGTH; at++) {
                if ((bits >> at & 1) == 1) return at;
            }
            return NONE;
        }

        static int pieceTo(int bits, int size, int from) {
            for (int at = Math.max(0, from); at < MOST_LENGTH; at++) {
                if (at - from >= size || (bits >> at & 1) == 0) return at;
            }
            return MOST_LENGTH;
        }

        static int pieceCount(int bits, int size) {
            int to = 0;
            for (int n = 0; n < MOST_LENGTH; n++) {
                int from = nextFrom(bits, to);
                if (from == NONE) return n;
                to = pieceTo(bits, size, from);
            }
            return MOST_LENGTH;
        }

        static int pieceEdge(int bits, int size, int i, boolean wantsTo) {
            int to = 0;
            for (int n = 0; n < MOST_LENGTH; n++) {
                int from = nextFrom(bits, to);
                if (from == NONE) return NONE;
                to = pieceTo(bits, size, from);
                if (n == i) return wantsTo ? to : from;
            }
            return NONE;
        }

        static int longestRun(int bits) {
            int longest = 0;
            int run = 0;
            for (int at = 0; at < MOST_LENGTH; at++) {
                run = (bits >> at & 1) == 1 ? run + 1 : 0;
                longest = Math.max(longest, run);
            }
            return longest;
        }
    }

    /** Rows of numbers, so many at the most, in one array, so that a copy is cheap. */
    private static final class Rows {
        final int width;
        final int[] cells;
        int count;

        Rows(int most, int width) {
            this.width = Math.max(1, width);
            this.cells = new int[Math.max(0, most * this.width)];
        }

        int get(int i, int column) {
            if (i < 0 || i >= count || column < 0 || column >= width) return OTHER;
            int at = i * width + column;
            return at >= 0 && at < cells.length ? cells[at] : OTHER;
        }

        int countOrCell(int i, int column) {
            return i == NONE ? count : get(i, column);
        }

        void put(int i, int column, int value) {
            if (i < 0 || i >= count || column < 0 || column >= width) return;
            int at = i * width + column;
            if (at >= 0 && at < cells.length) cells[at] = value;
        }

        void raise(int i, int column, int more) {
            if (i < 0 || i >= count || column < 0 || column >= width) return;
            int at = i * width + column;
            if (at >= 0 && at < cells.length) cells[at] += more;
        }

        void addMessage(int kind, int block, int serial, int from, int to, int claims, int tried) {
            int at = count * width;
            if (width < OUT_WIDTH || at < 0 || width > cells.length - at) return;
            cells[at + KIND] = kind;
            cells[at + BLOCK] = block;
            cells[at + SERIAL] = serial;
            cells[at + FROM] = from;
            cells[at + TO] = to;
            cells[at + CLAIMS] = claims;
            cells[at + TRIED] = tried;
            count++;
        }

        /** The first of a line, as it is, and when it comes or rings. */
        void addFirstOf(Rows line, int when, int side) {
            int at = count * width;
            if (width < FLIGHT_WIDTH || at < 0 || width > cells.length - at) return;
            if (line.width < OUT_WIDTH || line.cells.length < OUT_WIDTH) return;
            System.arraycopy(line.cells, 0, cells, at, OUT_WIDTH);
            cells[at + WHEN] = when;
            cells[at + SIDE] = side;
            count++;
        }

        /** A line of the book; the eldest makes room for it. */
        void addNote(int clock, int what, int block, int kind) {
            if (width < BOOK_WIDTH || cells.length < width) return;
            if ((count + 1) * width > cells.length) {
                System.arraycopy(cells, width, cells, 0, cells.length - width);
                count--;
            }
            int at = count * width;
            if (at < 0 || width > cells.length - at) return;
            cells[at] = clock;
            cells[at + 1] = what;
            cells[at + 2] = block;
            cells[at + 3] = kind;
            count++;
        }

        void remove(int i) {
            int behind = (i + 1) * width;
            int length = count * width - behind;
            if (i < 0 || i >= count || behind < width || length < 0 || length > cells.length - behind) return;
            System.arraycopy(cells, behind, cells, behind - width, length);
            count--;
        }

        int countOf(int column, int value) {
            int found = 0;
            for (int i = 0; i < count; i++) {
                if (get(i, column) == value) found++;
            }
            return found;
        }

        boolean isOf(int i, int block, int kind, int least, int most) {
            int at = i * width;
            if (i < 0 || i >= count || width < OUT_WIDTH || at < 0 || at >= cells.length - SERIAL) return false;
            int serial = cells[at + SERIAL];
            boolean sameKind = kind == ANY || cells[at + KIND] == kind;
            return cells[at + BLOCK] == block && sameKind && serial >= least && serial <= most;
        }

        void copyFrom(Rows other) {
            int length = other.count * other.width;
            if (length < 0 || length > cells.length || length > other.cells.length) return;
            System.arraycopy(other.cells, 0, cells, 0, length);
            count = other.count;
        }
    }

    /** All that a step changes. */
    private static final class State {
        int clock;
        int sun;
        int x;
        int sent;
        int lost;
        final Rows blocks;
        final Rows line0;
        final Rows line1;
        final Rows flight;
        final Rows timers;
        final Rows book;

        State() {
            x = FIRST_X;
            blocks = new Rows(MOST_BLOCKS, BLOCK_WIDTH);
            blocks.count = MOST_BLOCKS;
            line0 = new Rows(MOST_OUT, OUT_WIDTH);
            line1 = new Rows(MOST_OUT, OUT_WIDTH);
            flight = new Rows(MOST_FLIGHT, FLIGHT_WIDTH);
            timers = new Rows(MOST_TIMERS, FLIGHT_WIDTH);
            book = new Rows(MOST_BOOK, BOOK_WIDTH);
        }

        Rows line(int side) {
            return side == 0 ? line0 : line1;
        }

        void stir() {
            x = (x * 757 + 617) % 31091;
        }

        int drawn() {
            int drawn = x % DRAW;
            stir();
            return drawn;
        }

        void copyFrom(State other) {
            clock = other.clock;
            sun = other.sun;
            x = other.x;
            sent = other.sent;
            lost = other.lost;
            blocks.copyFrom(other.blocks);
            line0.copyFrom(other.line0);
            line1.copyFrom(other.line1);
            flight.copyFrom(other.flight);
            timers.copyFrom(other.timers);
            book.copyFrom(other.book);
        }
    }

    /** All that is told; no step changes it, and none taken back does. */
    private static final class Told {
        int blockCount;
        final int[] lengths;
        final int[] reds;
        int period;
        int from;
        int to;
        int ticksUnderWay;
        int pieceSize;
        int mostTries;
        int textCount;
        final Text[] texts;
        int ruling;
        int saidCount;
        final int[] saidKinds;
        final int[] saidLosses;

        Told() {
            lengths = new int[MOST_BLOCKS];
            reds = new int[MOST_BLOCKS];
            period = 1;
            from = 0;
            to = 1;
            ticksUnderWay = 2;
            pieceSize = 4;
            mostTries = 3;
            texts = new Text[MOST_TEXTS];
            ruling = NONE;
            saidKinds = new int[MOST_SAID];
            saidLosses = new int[MOST_SAID];
        }

        int addBlock(int length, int red) {
            if (length < 1 || length > MOST_LENGTH || red < 0 || red > length) return NONE;
            if (blockCount < 0 || blockCount >= lengths.length || blockCount >= reds.length) return NONE;
            lengths[blockCount] = length;
            reds[blockCount] = red;
            blockCount++;
            return blockCount - 1;
        }

        boolean hasBlock(int block) {
            return block >= 0 && block < blockCount;
        }

        int lengthOf(int block) {
            return hasBlock(block) && block < lengths.length ? lengths[block] : 0;
        }

        int redOf(int block) {
            return hasBlock(block) && block < reds.length ? reds[block] : 0;
        }

        int addText(Text text) {
            if (textCount < 0 || textCount >= texts.length) return NONE;
            texts[textCount] = text;
            textCount++;
            return textCount - 1;
        }

        Text textAt(int text) {
            return text >= 0 && text < textCount && text < texts.length ? texts[text] : null;
        }

        Text rulingText() {
            return textAt(ruling);
        }

        int addSaid(int kind, int loses) {
            if (saidCount < 0 || saidCount >= saidKinds.length || saidCount >= saidLosses.length) return OTHER;
            saidKinds[saidCount] = kind;
            saidLosses[saidCount] = loses;
            saidCount++;
            return saidCount;
        }

        int saidKind(int i) {
            return i >= 0 && i < saidKinds.length ? saidKinds[i] : NONE;
        }

        int saidLoses(int i) {
            return i >= 0 && i < saidLosses.length ? saidLosses[i] : NONE;
        }

        boolean sees(int clock) {
            if (period < 1) return false;
            int at = clock % period;
            return at >= from && at < to;
        }

        int ticksToSeen(int clock) {
            for (int ticks = 0; ticks < MOST_PERIOD; ticks++) {
                if (sees(clock + ticks)) return ticks;
            }
            return NONE;
        }

        int ticksForSun(int clock, int more) {
            int left = more;
            // they are seen once a period at least
            for (int ticks = 0; ticks <= MOST_PERIOD * MOST_WAITS; ticks++) {
                if (left <= 0) return ticks;
                if (sees(clock + ticks)) left--;
            }
            return NONE;
        }

        void copyFrom(Told other) {
            blockCount = other.blockCount;
            period = other.period;
            from = other.from;
            to = other.to;
            ticksUnderWay = other.ticksUnderWay;
            pieceSize = other.pieceSize;
            mostTries = other.mostTries;
            textCount = other.textCount;
            ruling = other.ruling;
            saidCount = other.saidCount;
            copyAll(other.lengths, lengths);
            copyAll(other.reds, reds);
            for (int i = 0; i < texts.length && i < other.texts.length; i++) texts[i] = other.texts[i];
            copyAll(other.saidKinds, saidKinds);
            copyAll(other.saidLosses, saidLosses);
        }

        private static void copyAll(int[] source, int[] target) {
            System.arraycopy(source, 0, target, 0, Math.min(source.length, target.length));
        }
    }

    /** What is told, how all is now, and how it was ahead of each step, in a ring. */
    private static final class Standing {
        final Told told;
        final State now;
        final State[] steps;
        int stepFirst;
        int stepCount;

        Standing() {
            told = new Told();
            now = new State();
            steps = new State[MOST_STEPS];
            for (int i = 0; i < steps.length; i++) steps[i] = new State();
        }

        State step(int i) {
            int at = (stepFirst + i) % MOST_STEPS;
            return at >= 0 && at < steps.length ? steps[at] : null;
        }

        void remember() {
            State slot = step(stepCount);
            if (slot == null) return;
            slot.copyFrom(now);
            if (stepCount < MOST_STEPS) stepCount++;
            else stepFirst = (stepFirst + 1) % MOST_STEPS;
        }

        int takeBack() {
            if (stepCount <= 0) return NONE;
            State slot = step(stepCount - 1);
            if (slot == null) return NONE;
            now.copyFrom(slot);
            stepCount--;
            return stepCount;
        }

        void copyFrom(Standing other) {
            told.copyFrom(other.told);
            now.copyFrom(other.now);
            stepFirst = 0;
            stepCount = other.stepCount;
            for (int i = 0; i < stepCount; i++) {
                State slot = step(i);
                State otherSlot = other.step(i);
                if (slot != null && otherSlot != null) slot.copyFrom(otherSlot);
            }
        }
    }

    /** Moves a state by what is told. */
    private static final class Engine {
        final Told told;
        final State now;
        final Law law;
        boolean drawing;

        Engine(Told told, State now) {
            this.told = told;
            this.now = now;
            this.law = new Law(told, now);
            this.drawing = true;
        }

        int openBlock(int block) {
            Rows line = now.line(0);
            int before = line.count;
            int red = told.redOf(block);
            now.blocks.put(block, AT_0, IS_OPEN);
            now.book.addNote(now.clock, BOOK_OPENED, block, 0);
            putPieces(block, Bits.first(red), true);
            putPieces(block, Bits.between(red, told.lengthOf(block)), false);
            if (red == 0) finish(block);
            return line.count - before;
        }

        boolean canCancel(int block, int side) {
            if (now.blocks.get(block, AT_0) != IS_OPEN) return false;
            return side == 0 || now.blocks.get(block, AT_1) != IS_CANCELLED;
        }

        void cancelBy(int block, int side) {
            now.book.addNote(now.clock, BOOK_CANCELLED + side, block, 0);
            now.blocks.put(block, AT_0 + side, IS_CANCELLED);
            forget(side, block, ANY, 0, LAST_SERIAL);
            now.line(side).addMessage(CANCELLING, block, 0, 0, 0, 0, 0);
        }

        void tick() {
            Rows flight = now.flight;
            int flying = flight.count;
            int at = 0;
            for (int n = 0; n < flying; n++) {
                if (flight.get(at, WHEN) == now.clock) {
                    got(at);
                    flight.remove(at);
                } else {
                    at++;
                }
            }
            if (told.sees(now.clock)) {
                send(0);
                send(1);
                now.sun++;
                ring();
            }
            now.clock++;
        }

        int ticksTillEnd(int block) {
            for (int ticks = 0; ticks <= MOST_FAR_TICKS; ticks++) {
                if (ticks > 0) tick();
                if (now.blocks.get(block, AT_0) != IS_OPEN) return ticks;
            }
            return NONE;
        }

        private void putPieces(int block, int bits, boolean reliable) {
            int from = Bits.nextFrom(bits, 0);
            for (int n = 0; n < MOST_LENGTH && from != NONE; n++) {
                int to = Bits.pieceTo(bits, told.pieceSize, from);
                int behind = Bits.nextFrom(bits, to);
                int serial = 0;
                if (reliable && behind == NONE) {
                    now.blocks.raise(block, CHECKPOINTS, 1);
                    serial = now.blocks.get(block, CHECKPOINTS);
                }
                now.line0.addMessage(DATA, block, serial, from, to, 0, 0);
                from = behind;
            }
        }

        private void finish(int block) {
            now.blocks.put(block, AT_0, IS_DONE);
            now.book.addNote(now.clock, BOOK_DONE, block, 0);
            forget(0, block, DATA, 1, LAST_SERIAL);
        }

        /** What is out at a side, and its timers there: those of serials from least to most are gone. */
        private void forget(int side, int block, int kind, int least, int most) {
            Rows line = now.line(side);
            for (int i = line.count - 1; i >= 0; i--) {
                if (line.isOf(i, block, kind, least, most)) line.remove(i);
            }
            Rows timers = now.timers;
            for (int i = timers.count - 1; i >= 0; i--) {
                if (timers.get(i, SIDE) == side && timers.isOf(i, block, kind, least, most)) timers.remove(i);
            }
        }

        private void got(int i) {
            Rows flight = now.flight;
            int block = flight.get(i, BLOCK);
            int serial = flight.get(i, SERIAL);
            int side = flight.get(i, SIDE);
            switch (flight.get(i, KIND)) {
                case DATA: gotData(block, serial, Bits.between(flight.get(i, FROM), flight.get(i, TO))); break;
                case REPORT: gotReport(block, serial, flight.get(i, TO), flight.get(i, CLAIMS)); break;
                case REPORT_ANSWER: forget(side, block, REPORT, serial, serial); break;
                case CANCELLING: gotCancelling(block, side); break;
                case CANCELLING_ANSWER: forget(side, block, CANCELLING, 0, LAST_SERIAL); break;
                default: break;
            }
        }

        private void gotData(int block, int checkpoint, int bytes) {
            Rows blocks = now.blocks;
            if (blocks.get(block, AT_1) == IS_CANCELLED) return;
            int come = blocks.get(block, COME) | bytes;
            blocks.put(block, COME, come);
            if (checkpoint == 0) return;
            blocks.raise(block, REPORTS, 1);
            int claims = come & Bits.first(told.redOf(block));
            now.line1.addMessage(REPORT, block, blocks.get(block, REPORTS), 0, checkpoint, claims, 0);
        }

        private void gotReport(int block, int serial, int checkpoint, int claims) {
            Rows blocks = now.blocks;
            now.line0.addMessage(REPORT_ANSWER, block, serial, 0, 0, 0, 0);
            forget(0, block, DATA, checkpoint, checkpoint);
            if (blocks.get(block, AT_0) != IS_OPEN) return;
            int claimed = blocks.get(block, CLAIMED) | claims;
            blocks.put(block, CLAIMED, claimed);
            int gaps = Bits.first(told.redOf(block)) & ~claimed;
            if (gaps == 0) finish(block);
            else if (blocks.get(block, CHECKPOINTS) == checkpoint) putPieces(block, gaps, true);
        }

        private void gotCancelling(int block, int side) {
            if (side == 1 || now.blocks.get(block, AT_0) == IS_OPEN) {
                now.blocks.put(block, AT_0 + side, IS_CANCELLED);
                forget(side, block, ANY, 0, LAST_SERIAL);
            }
            now.line(side).addMessage(CANCELLING_ANSWER, block, 0, 0, 0, 0, 0);
        }

        private void send(int side) {
            Rows line = now.line(side);
            if (line.count == 0) return;
            int kind = line.get(0, KIND);
            int block = line.get(0, BLOCK);
            int bytes = kind == DATA ? line.get(0, TO) - line.get(0, FROM) : 0;
            now.sent++;
            now.blocks.raise(block, BYTES_SENT, bytes);
            if (drawing && now.drawn() < law.losing(told.rulingText(), kind, block, bytes)) {
                now.lost++;
                now.book.addNote(now.clock, BOOK_LOST, block, kind);
            } else {
                now.flight.addFirstOf(line, now.clock + told.ticksUnderWay, 1 - side);
            }
            boolean checkpoint = kind == DATA && line.get(0, SERIAL) > 0;
            if (checkpoint || kind == REPORT || kind == CANCELLING) {
                int waits = law.waiting(told.rulingText(), kind, block, line.get(0, TRIED));
                now.timers.addFirstOf(line, now.sun + waits, side);
            }
            line.remove(0);
        }

        private void ring() {
            // each that rings is gone and none starts here, so the first that is due is the next in order
            for (int n = 0; n < MOST_TIMERS; n++) {
                int i = firstDue();
                if (i == NONE) return;
                ringOne(i);
            }
        }

        private int firstDue() {
            for (int i = 0; i < now.timers.count; i++) {
                if (now.timers.get(i, WHEN) <= now.sun) return i;
            }
            return NONE;
        }

        private void ringOne(int i) {
            Rows timers = now.timers;
            int kind = timers.get(i, KIND);
            int block = timers.get(i, BLOCK);
            int serial = timers.get(i, SERIAL);
            int from = timers.get(i, FROM);
            int to = timers.get(i, TO);
            int claims = timers.get(i, CLAIMS);
            int tried = timers.get(i, TRIED);
            int side = timers.get(i, SIDE);
            now.book.addNote(now.clock, BOOK_RUNG, block, kind);
            timers.remove(i);
            if (tried < told.mostTries) {
                now.line(side).addMessage(kind, block, serial, from, to, claims, tried + 1);
            } else if (kind != CANCELLING && canCancel(block, side)) {
                cancelBy(block, side);
            }
        }
    }

    /** Asks the laws of a text how often a message is lost and how long a timer waits. */
    private static final class Law {
        final Told told;
        final State now;
        final int[] stack;
        int height;
        int kind;
        int block;
        int lastName;

        Law(Told told, State now) {
            this.told = told;
            this.now = now;
            this.stack = new int[MOST_BYTES];
        }

        int losing(Text text, int ofKind, int ofBlock, int bytes) {
            if (text == null || text.losesCode.length == 0) return LOSES_WITHOUT;
            return Math.max(0, Math.min(DRAW, value(text.losesCode, ofKind, ofBlock, bytes)));
        }

        int waiting(Text text, int ofKind, int ofBlock, int tried) {
            if (text == null || text.waitsCode.length == 0) return 2 * told.ticksUnderWay + 2;
            return Math.max(1, Math.min(MOST_WAITS, value(text.waitsCode, ofKind, ofBlock, tried)));
        }

        /** A law asks either for bytes or for tried, so one number is enough for both. */
        private int value(int[] code, int ofKind, int ofBlock, int bytesOrTried) {
            kind = ofKind;
            block = ofBlock;
            lastName = bytesOrTried;
            height = 0;
            int skipTo = 0;
            for (int at = 0; at + 1 < code.length; at += 2) {
                if (at < skipTo) continue;
                int order = code[at];
                int operand = code[at + 1];
                switch (order) {
                    case UNLESS: if (pop() == 0) skipTo = operand; break;
                    case SKIP: skipTo = operand; break;
                    case FIGURE: push(operand); break;
                    case NEGATE: push(-pop()); break;
                    case W_NOT: push(1 - pop()); break;
                    case W_CLAIMED: push(bytesOf(pop(), CLAIMED)); break;
                    case W_COME: push(bytesOf(pop(), COME)); break;
                    default:
                        if (order >= W_CLOCK && order <= W_TRIED) push(named(order));
                        else pushOfTwo(order);
                        break;
                }
            }
            return pop();
        }

        private void push(int number) {
            if (height < 0 || height >= stack.length) return;
            stack[height] = number;
            height++;
        }

        private int pop() {
            if (height < 1 || height > stack.length) return 0;
            height--;
            return stack[height];
        }

        private int bytesOf(int ofBlock, int column) {
            return told.hasBlock(ofBlock) ? Integer.bitCount(now.blocks.get(ofBlock, column)) : 0;
        }

        private int named(int name) {
            switch (name) {
                case W_CLOCK: return now.clock;
                case W_SUN: return now.sun;
                case W_KIND: return kind;
                case W_NUMBER: return block;
                case W_DELAY: return told.ticksUnderWay;
                default: return lastName;
            }
        }

        private void pushOfTwo(int order) {
            long right = pop();
            long left = pop();
            long result = 0;
            switch (order) {
                case PLUS: result = left + right; break;
                case MINUS: result = left - right; break;
                case TIMES: result = left * right; break;
                case CUT: result = right == 0 ? 0 : left / right; break;
                case W_OR: result = left | right; break;
                case W_AND: result = left & right; break;
                case BELOW: result = left < right ? 1 : 0; break;
                case ABOVE: result = left > right ? 1 : 0; break;
                case EQUAL: result = left == right ? 1 : 0; break;
                case UNLIKE: result = left != right ? 1 : 0; break;
                case AT_MOST: result = left <= right ? 1 : 0; break;
                case AT_LEAST: result = left >= right ? 1 : 0; break;
                default: break;
            }
            push((int) Math.max(-MOST_VALUE, Math.min(MOST_VALUE, result)));
        }
    }

    /** A text that was read: its laws as orders with an operand each, its clauses as three numbers each. */
    private static final class Text {
        final int[] losesCode;
        final int[] waitsCode;
        final int[] clauses;

        Text(int[] losesCode, int[] waitsCode, int[] clauses) {
            this.losesCode = losesCode;
            this.waitsCode = waitsCode;
            this.clauses = clauses;
        }

        int clauseCount() {
            return clauses.length / 3;
        }

        int clause(int i, int what) {
            if (i < 0 || i >= clauseCount() || what < 0 || what > 2) return NONE;
            return clauses[i * 3 + what];
        }
    }

    /** The tokens of a tape; what is none is kept as one, as it is a fault only when it is come to. */
    private static final class Tokens {
        final int[] sorts;
        final int[] values;
        final int[] places;
        int count;

        Tokens() {
            sorts = new int[MOST_BYTES + 1];
            values = new int[MOST_BYTES + 1];
            places = new int[MOST_BYTES + 1];
        }

        void cut(int[] bytes, int length) {
            int end = Math.max(0, Math.min(length, bytes.length));
            count = 0;
            int next = 0;
            for (int at = 0; at < end; at++) {
                if (at < next || bytes[at] == 32 || bytes[at] == 10) continue;
                next = tokenEnd(bytes, at, end);
                if (isLetter(bytes[at])) add(wordSort(bytes, at, next), 0, at);
                else if (isDigit(bytes[at])) add(FIGURE, figure(bytes, at, next), at);
                else add(signSort(bytes[at], next - at), 0, at);
            }
            add(TEXT_END, 0, end);
        }

        int sort(int i) {
            return i >= 0 && i < count && i < sorts.length ? sorts[i] : TEXT_END;
        }

        int value(int i) {
            return i >= 0 && i < count && i < values.length ? values[i] : 0;
        }

        int place(int i) {
            return i >= 0 && i < count && i < places.length ? places[i] : 0;
        }

        private void add(int sort, int value, int place) {
            if (count < 0 || count > MOST_BYTES) return;
            sorts[count] = sort;
            values[count] = value;
            places[count] = place;
            count++;
        }

        private static boolean isLetter(int sign) {
            return sign >= 'a' && sign <= 'z' || sign >= 'A' && sign <= 'Z';
        }

        private static boolean isDigit(int sign) {
            return sign >= '0' && sign <= '9';
        }

        private static int tokenEnd(int[] bytes, int from, int end) {
            if (from < 0 || from >= bytes.length || end > bytes.length) return from + 1;
            boolean letters = isLetter(bytes[from]);
            if (letters || isDigit(bytes[from])) {
                for (int at = from + 1; at < end; at++) {
                    boolean same = letters ? isLetter(bytes[at]) : isDigit(bytes[at]);
                    if (!same) return at;
                }
                return end;
            }
            boolean angle = bytes[from] == '<' || bytes[from] == '>';
            return angle && from + 1 < end && bytes[from + 1] == '=' ? from + 2 : from + 1;
        }

        private static int figure(int[] bytes, int from, int to) {
            int value = 0;
            for (int at = from; at < to && at >= 0 && at < bytes.length; at++) {
                // all that is above the last number is the same fault
                value = Math.min(LAST_CLOCK + 1, value * 10 + bytes[at] - '0');
            }
            return value;
        }

        private static int signSort(int sign, int length) {
            if (length == 2) return sign == '<' ? AT_MOST : AT_LEAST;
            for (int i = 0; i < SIGNS.length(); i++) {
                if (SIGNS.charAt(i) == sign) return SIGNS_FROM + i;
            }
            return NO_TOKEN;
        }

        private static int wordSort(int[] bytes, int from, int to) {
            int word = 0;
            int start = 0;
            for (int i = 0; i < WORDS.length(); i++) {
                if (WORDS.charAt(i) != ' ') continue;
                if (i - start == to - from && isWord(bytes, from, start, i)) return word;
                word++;
                start = i + 1;
            }
            return NO_TOKEN;
        }

        private static boolean isWord(int[] bytes, int from, int start, int end) {
            for (int i = start; i < end; i++) {
                int at = from + i - start;
                if (i < 0 || i >= WORDS.length() || at < 0 || at >= bytes.length) return false;
                if (WORDS.charAt(i) != bytes[at]) return false;
            }
            return true;
        }
    }

    /** Reads a tape from its first token on, up to the first fault; what opens is counted, to refuse depth. */
    private static final class Reader {
        final Tokens tokens;
        final int[] code;
        final int[] clauses;
        int codeLength;
        int clauseCount;
        int at;
        int law;
        int[] losesCode;
        int[] waitsCode;
        int faultSort;
        int faultPlace;

        Reader() {
            tokens = new Tokens();
            code = new int[2 * (MOST_BYTES + 1)];
            clauses = new int[3 * MOST_CLAUSES];
            losesCode = NO_CODE;
            waitsCode = NO_CODE;
        }

        Text read(int[] bytes, int length) {
            tokens.cut(bytes, length);
            at = 0;
            clauseCount = 0;
            losesCode = NO_CODE;
            waitsCode = NO_CODE;
            faultSort = NO_FAULT;
            faultPlace = NONE;
            for (int n = 0; n <= MOST_CLAUSES && tokens.sort(at) != TEXT_END; n++) {
                if (!clause()) return null;
            }
            if (clauseCount < 0 || clauseCount > MOST_CLAUSES) return null;
            return new Text(losesCode, waitsCode, Arrays.copyOf(clauses, 3 * clauseCount));
        }

        private boolean refuse(int sort) {
            faultSort = sort;
            faultPlace = tokens.place(at);
            return false;
        }

        private boolean take(int sort) {
            if (tokens.sort(at) != sort) return refuse(FAULT_PLACE);
            at++;
            return true;
        }

        private boolean clause() {
            int sort = tokens.sort(at);
            if (sort > W_DAY) return refuse(FAULT_PLACE);
            boolean again = sort == W_LOSES && losesCode.length > 0 || sort == W_WAITS && waitsCode.length > 0;
            if (again) return refuse(FAULT_TWICE);
            if (clauseCount >= MOST_CLAUSES) return refuse(FAULT_CLAUSES);
            at++;
            if (sort == W_LOSES || sort == W_WAITS) return lawClause(sort);
            return deedClause(sort);
        }

        private boolean lawClause(int sort) {
            law = sort;
            codeLength = 0;
            if (!sum(0) || !take(STOP)) return false;
            if (codeLength < 0 || codeLength > code.length) return false;
            int[] read = Arrays.copyOf(code, codeLength);
            if (sort == W_LOSES) losesCode = read;
            else waitsCode = read;
            addClause(sort, 0, 0);
            return true;
        }

        private boolean deedClause(int sort) {
            int first = 0;
            int second = 0;
            switch (sort) {
                case W_BLOCK:
                    first = number(0, MOST_LENGTH);
                    if (first == NONE || !take(W_OF)) return false;
                    second = number(Math.max(1, first), MOST_LENGTH);
                    break;
                case W_OPEN: first = number(0, MOST_BLOCKS - 1); break;
                case W_CANCEL:
                    first = number(0, MOST_BLOCKS - 1);
                    if (first == NONE || !take(W_BY)) return false;
                    second = number(0, 1);
                    break;
                default: first = number(1, MOST_TICKS); break;
            }
            if (first == NONE || second == NONE || !take(STOP)) return false;
            addClause(sort, first, second);
            return true;
        }

        private int number(int least, int most) {
            int value = tokens.value(at);
            if (tokens.sort(at) != FIGURE) {
                refuse(FAULT_PLACE);
                return NONE;
            }
            if (value < least || value > most) {
                refuse(FAULT_NUMBER);
                return NONE;
            }
            at++;
            return value;
        }

        private void addClause(int sort, int first, int second) {
            int cell = 3 * clauseCount;
            if (cell < 0 || cell > clauses.length - 3) return;
            clauses[cell] = sort;
            clauses[cell + 1] = first;
            clauses[cell + 2] = second;
            clauseCount++;
        }

        private boolean emit(int order, int operand) {
            if (codeLength < 0 || codeLength > code.length - 2) return false;
            code[codeLength] = order;
            code[codeLength + 1] = operand;
            codeLength += 2;
            return true;
        }

        /** The order at that cell passes over all up to here. */
        private void landHere(int cell) {
            if (cell >= 0 && cell < code.length - 1) code[cell + 1] = codeLength;
        }

        private boolean sum(int open) {
            if (!product(open)) return false;
            for (int n = 0; n <= MOST_BYTES; n++) {
                int sort = tokens.sort(at);
                if (sort != PLUS && sort != MINUS) return true;
                at++;
                if (!product(open) || !emit(sort, 0)) return false;
            }
            return refuse(FAULT_PLACE);
        }

        private boolean product(int open) {
            if (!one(open)) return false;
            for (int n = 0; n <= MOST_BYTES; n++) {
                int sort = tokens.sort(at);
                if (sort != TIMES && sort != CUT) return true;
                at++;
                if (!one(open) || !emit(sort, 0)) return false;
            }
            return refuse(FAULT_PLACE);
        }

        private boolean one(int open) {
            int sort = tokens.sort(at);
            int value = tokens.value(at);
            boolean opens = sort == BRACKET || sort == MINUS || sort == W_CLAIMED || sort == W_COME || sort == W_IF;
            if (opens && open >= MOST_OPEN) return refuse(FAULT_DEPTH);
            if (sort >= W_CLOCK && sort <= W_TRIED) return name(sort);
            switch (sort) {
                case FIGURE:
                    if (value > LAST_CLOCK) return refuse(FAULT_NUMBER);
                    at++;
                    return emit(FIGURE, value);
                case BRACKET:
                    at++;
                    return sum(open + 1) && take(BRACKET_END);
                case MINUS:
                    at++;
                    return one(open + 1) && emit(NEGATE, 0);
                case W_CLAIMED:
                case W_COME:
                    at++;
                    return one(open + 1) && emit(sort, 0);
                case W_IF:
                    at++;
                    return choice(open + 1);
                default: return refuse(FAULT_PLACE);
            }
        }

        private boolean name(int sort) {
            int stranger = law == W_LOSES ? W_TRIED : W_BYTES;
            if (sort == stranger) return refuse(FAULT_NAME);
            at++;
            return emit(sort, 0);
        }

        private boolean choice(int open) {
            if (!either(open) || !take(W_THEN)) return false;
            int unless = codeLength;
            if (!emit(UNLESS, 0) || !sum(open) || !take(W_ELSE)) return false;
            int skip = codeLength;
            if (!emit(SKIP, 0)) return false;
            landHere(unless);
            if (!sum(open) || !take(W_END)) return false;
            landHere(skip);
            return true;
        }

        private boolean either(int open) {
            if (!both(open)) return false;
            for (int n = 0; n <= MOST_BYTES; n++) {
                if (tokens.sort(at) != W_OR) return true;
                at++;
                if (!both(open) || !emit(W_OR, 0)) return false;
            }
            return refuse(FAULT_PLACE);
        }

        private boolean both(int open) {
            if (!ask(open)) return false;
            for (int n = 0; n <= MOST_BYTES; n++) {
                if (tokens.sort(at) != W_AND) return true;
                at++;
                if (!ask(open) || !emit(W_AND, 0)) return false;
            }
            return refuse(FAULT_PLACE);
        }

        private boolean ask(int open) {
            if (tokens.sort(at) == W_NOT) {
                if (open >= MOST_OPEN) return refuse(FAULT_DEPTH);
                at++;
                return ask(open + 1) && emit(W_NOT, 0);
            }
            if (!sum(open)) return false;
            int sort = tokens.sort(at);
            boolean compares = sort >= BELOW && sort <= UNLIKE || sort == AT_MOST || sort == AT_LEAST;
            if (!compares) return refuse(FAULT_PLACE);
            at++;
            return sum(open) && emit(sort, 0);
        }
    }
}
