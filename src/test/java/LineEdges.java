/** The edges of part I: BLOCKS, what is told, the BOOK, MESSAGES, the lines and their room, PIECES, OPENED, CANCELLED. */
final class LineEdges {
    private LineEdges() {
    }

    static void run() {
        blocks();
        lengths();
        redAndGreen();
        atFirst();
        redAloneIsClaimed();
        serials();
        delays();
        sizes();
        tries();
        window();
        clockAndBook();
        kinds();
        cancellingKinds();
        roomForPieces();
        roomInAnUsedLine();
        roomForReports();
        roomForWhatRings();
        roomForAnAnswer();
        roomForCancellings();
        roomForGaps();
        piecesOfSpans();
        openedEdges();
        cancelledWhen();
        cancelledTakesItsOwn();
    }

    private static void blocks() {
        Edge.sentence("I: BLOCKS 0 .. 2 (told one by one)");
        LongCarrier x = new LongCarrier();
        for (int block = 0; block < 3; block++) {
            Check.due("of(" + block + ", 0), not told", x.of(block, 0), -2);
            Check.due("open(" + block + "), not told", x.open(block), -1);
            Check.due("block", x.block(block + 4, block), block);
            Check.due("of(" + block + ", 0)", x.of(block, 0), block + 4);
        }
        Check.due("a fourth", x.block(1, 1), -1);
        Check.due("of(3, 0)", x.of(3, 0), -2);
        Check.due("of(2, 0)", x.of(2, 0), 6);
        Check.due("open(2)", x.open(2), 2);
        Check.due("open(3)", x.open(3), -1);
    }

    private static void lengths() {
        Edge.sentence("I: LENGTH 1 .. 30 bytes");
        LongCarrier x = PromiseTest.ruled("loses 0;");
        Check.due("block(0, 0)", x.block(0, 0), -1);
        Check.due("block(1, 1)", x.block(1, 1), 0);
        Check.due("block(31, 31)", x.block(31, 31), -1);
        Check.due("block(30, 30)", x.block(30, 30), 1);
        x.size(9);
        x.open(0);
        x.day(3);
        Check.due("one byte", x.come(0, 0, true), 1);
        x.day(2);
        Check.due("DONE", x.of(0, 2), 2);
        Check.due("four of it", x.open(1), 4);
        Edge.out(x, 0, 3, 0, 1, 1, 27, 30, 0, 0);
        x.day(8);
        Check.due("from of thirty", x.come(1, 0, false), 0);
        Check.due("to of thirty", x.come(1, 0, true), 30);
        Check.due("CLAIMED of thirty", x.claims(1, 0, true), 30);
        Check.due("how many", x.of(1, 4) + x.of(1, 5), 60);
        Check.due("DONE", x.of(1, 2), 2);
    }

    private static void redAndGreen() {
        Edge.sentence("I: of which the first RED ones are reliable, the others green");
        LongCarrier x = PromiseTest.ruled("loses 0;");
        x.size(9);
        x.block(5, 1);
        x.block(5, 4);
        x.block(5, 5);
        for (int block = 0; block < 3; block++) {
            int red = x.of(block, 1);
            Check.due("GAPS of a NEW one", x.gaps(block, -1, true), 1);
            Check.due("from", x.gaps(block, 0, false), 0);
            Check.due("to", x.gaps(block, 0, true), red);
            int before = x.out(0, -1, 0);
            Check.due("open", x.open(block), block == 2 ? 1 : 2);
            Edge.out(x, 0, before, 0, block, 1, 0, red, 0, 0);
            if (block < 2) {
                Edge.out(x, 0, before + 1, 0, block, 0, red, 5, 0, 0);
            }
        }
        Check.due("RED is no more than LENGTH", new LongCarrier().block(5, 6), -1);
        Check.due("RED is 0 at least", new LongCarrier().block(5, -1), -1);
    }

    private static void atFirst() {
        Edge.sentence("I: A BLOCK is at side 0 NEW (at first), at side 1 not CANCELLED (at first)");
        LongCarrier x = PromiseTest.quiet(5, 3);
        Edge.of(x, 0, 5, 3, 0, 0, 0, 0, 0, 0, 0);
        x.open(0);
        Edge.of(x, 0, 5, 3, 1, 0, 0, 0, 1, 0, 0);
    }

    private static void redAloneIsClaimed() {
        Edge.sentence("I: bytes of it are CLAIMED (at side 0; RED ones alone)");
        // the CHECKPOINT is lost at 0, green comes at 3, the CHECKPOINT is sent again at 3 and comes at 5
        LongCarrier x = PromiseTest.ruled("loses if clock = 0 then 10 else 0 end; waits 3 + 20 * tried;");
        x.block(4, 2);
        x.open(0);
        x.day(5);
        Edge.of(x, 0, 4, 2, 1, 0, 0, 2, 1, 0, 6);
        x.day(1);
        Edge.flight(x, 0, 1, 0, 1, 0, 1, 0b11, 0, 7, 0);
        x.day(2);
        Edge.of(x, 0, 4, 2, 2, 0, 2, 4, 1, 1, 6);
        Check.due("CLAIMS", x.claims(0, -1, false), 1);
        Check.due("to", x.claims(0, 0, true), 2);
    }

    private static void serials() {
        Edge.sentence("I: CHECKPOINTS, REPORTS: how many there were (their SERIALS from 1 on)");
        LongCarrier x = PromiseTest.quiet(2, 2);
        x.block(2, 2);
        Check.due("none", x.of(0, 6) + x.of(0, 7), 0);
        for (int block = 0; block < 2; block++) {
            x.open(block);
            Edge.out(x, 0, 0, 0, block, 1);
            Check.due("CHECKPOINTS", x.of(block, 6), 1);
            x.day(3);
            Edge.flight(x, 0, 1, block, 1);
            Check.due("REPORTS", x.of(block, 7), 1);
            x.day(9);
        }
    }

    private static void delays() {
        Edge.sentence("I: DELAY 1 .. 20 (told; at first 2)");
        int[] delays = {2, 1, 20};
        for (int delay : delays) {
            LongCarrier x = PromiseTest.quiet(1, 1);
            if (delay != 2) {
                x.delay(delay);
            }
            x.open(0);
            x.day(1);
            Edge.flight(x, 0, 0, 0, 1, 0, 1, 0, 0, delay, 1);
            x.delay(3);
            if (delay > 1) {
                x.day(delay - 1);
            }
            Check.due("not yet by " + delay, x.of(0, 5), 0);
            x.day(1);
            Check.due("come by " + delay, x.of(0, 5), 1);
        }
    }

    private static void sizes() {
        Edge.sentence("I: SIZE 1 .. 9 (told; at first 4)");
        int[] sizes = {4, 1, 9};
        for (int size : sizes) {
            LongCarrier x = PromiseTest.quiet(10, 10);
            if (size != 4) {
                x.size(size);
            }
            int pieces = (9 + size) / size;
            Check.due("PIECES by " + size, x.open(0), pieces);
            Edge.out(x, 0, 0, 0, 0, 0, 0, size, 0, 0);
            Edge.out(x, 0, pieces - 1, 0, 0, 1, (pieces - 1) * size, 10, 0, 0);
        }
    }

    private static void tries() {
        Edge.sentence("I: TRIES 0 .. 9 (told; at first 3)");
        int[] tries = {3, 0, 9};
        for (int most : tries) {
            LongCarrier x = PromiseTest.ruled("loses 10; waits 1;");
            x.block(1, 1);
            if (most != 3) {
                x.tries(most);
            }
            x.open(0);
            if (most > 0) {
                x.day(most);
            }
            Check.due("OPEN behind " + most, x.of(0, 2), 1);
            x.day(1);
            Check.due("CANCELLED behind one more than " + most, x.of(0, 2), 3);
            Check.due("bytes sent", x.of(0, 8), most + 1);
        }
    }

    private static void window() {
        Edge.sentence("I: THE WINDOW (told; at first 1, 0, 1): SEEN, if CLOCK mod PERIOD is from FROM on and below TO");
        LongCarrier x = new LongCarrier();
        for (int n = 0; n <= 999; n++) {
            Check.due("seen(" + n + ") at first", x.seen(n), true);
        }
        int[][] windows = {{10, 3, 6}, {10, 7, 10}, {10, 0, 1}, {60, 0, 60}, {60, 59, 60}, {2, 1, 2}, {1, 0, 1}};
        for (int[] w : windows) {
            for (int clock : new int[] {0, 29, 59, 60}) {
                x = Edge.at(clock);
                x.window(w[0], w[1], w[2]);
                for (int n = 0; n <= 125; n++) {
                    int at = (clock + n) % w[0];
                    Check.due("seen(" + n + ") at " + clock, x.seen(n), w[1] <= at && at < w[2]);
                }
            }
        }
        x = new LongCarrier();
        x.window(10, 3, 6);
        boolean[] seen = {false, false, false, true, true, true, false, false, false, false, false, false, false, true};
        int sun = 0;
        for (int clock = 0; clock < seen.length; clock++) {
            Check.due("seen(0) at " + clock, x.seen(0), seen[clock]);
            x.day(1);
            sun += seen[clock] ? 1 : 0;
            Check.due("SUN behind " + clock, x.is(2), sun);
        }
    }

    private static void clockAndBook() {
        Edge.sentence("I: CLOCK 0 .. 9999, SUN (at first 0). X: at first 491");
        LongCarrier x = new LongCarrier();
        Check.due("CLOCK", x.is(0), 0);
        Check.due("X", x.is(1), 491);
        Check.due("SUN", x.is(2), 0);
        x = Edge.at(9998);
        Check.due("day(1)", x.day(1), 0);
        Check.due("CLOCK", x.is(0), 9999);
        Check.due("SUN", x.is(2), 9999);
        Check.due("none more", x.day(1), -1);
        Check.due("CLOCK", x.is(0), 9999);
        Edge.sentence("I: BOOK (the latest 25)");
        // opened and done, then one is lost in each tick
        x = PromiseTest.ruled("loses 10;");
        x.size(1);
        x.block(30, 0);
        x.open(0);
        x.day(22);
        Check.due("24 lines", x.book(-1, 0), 24);
        Check.due("none such", x.book(24, 0), -2);
        x.day(1);
        Check.due("25 lines", x.book(-1, 0), 25);
        Edge.note(x, 0, 0, 0, 0, 0);
        Edge.note(x, 24, 22, 4, 0, 0);
        x.day(1);
        Check.due("25 lines", x.book(-1, 0), 25);
        Edge.note(x, 0, 0, 1, 0, 0);
        Edge.note(x, 1, 0, 4, 0, 0);
        Edge.note(x, 24, 23, 4, 0, 0);
        Check.due("none such", x.book(25, 0), -2);
    }

    private static void kinds() {
        Edge.sentence("I: MESSAGES, by kinds: 0 data, 1 a REPORT, 2 the answer to it (what is not told here is 0)");
        LongCarrier x = PromiseTest.quiet(5, 3);
        x.open(0);
        Edge.out(x, 0, 0, 0, 0, 1, 0, 3, 0, 0);
        Edge.out(x, 0, 1, 0, 0, 0, 3, 5, 0, 0);
        x.day(1);
        x.window(60, 59, 60);
        x.day(2);
        Edge.out(x, 1, 0, 1, 0, 1, 0, 1, 0b111, 0);
        x.window(1, 0, 1);
        x.day(1);
        Edge.flight(x, 0, 0, 0, 0, 3, 5, 0, 0, 5, 1);
        Edge.flight(x, 1, 1, 0, 1, 0, 1, 0b111, 0, 5, 0);
        Edge.timer(x, 0, 0, 0, 0, 1, 6, 0);
        Edge.timer(x, 1, 1, 1, 0, 1, 7, 0);
        x.window(60, 59, 60);
        x.day(2);
        Edge.out(x, 0, 0, 2, 0, 1, 0, 0, 0, 0);
    }

    private static void cancellingKinds() {
        Edge.sentence("I: MESSAGES, by kinds: 3 a cancelling, 4 the answer to one, of a BLOCK each");
        LongCarrier x = PromiseTest.quiet(5, 3);
        x.block(2, 2);
        x.open(1);
        x.cancel(1, 0);
        Edge.out(x, 0, 0, 3, 1, 0, 0, 0, 0, 0);
        x.day(1);
        Edge.flight(x, 0, 3, 1, 0, 0, 0, 0, 0, 2, 1);
        Edge.timer(x, 0, 0, 3, 1, 0, 6, 0);
        x.window(60, 59, 60);
        x.day(2);
        Edge.out(x, 1, 0, 4, 1, 0, 0, 0, 0, 0);
        x.window(1, 0, 1);
        x.day(1);
        Edge.flight(x, 0, 4, 1, 0, 0, 0, 0, 0, 5, 0);
    }

    private static LongCarrier inOnes(int length, int red) {
        LongCarrier x = PromiseTest.quiet(length, red);
        x.size(1);
        return x;
    }

    private static void roomForPieces() {
        Edge.sentence("I: Each side has a line of those that are OUT (24 at most)");
        LongCarrier x = inOnes(24, 24);
        Check.due("24 have room", x.open(0), 24);
        Check.due("OUT", x.out(0, -1, 0), 24);
        Edge.out(x, 0, 23, 0, 0, 1, 23, 24, 0, 0);
        x = inOnes(25, 24);
        Check.due("the first green one has none", x.open(0), 24);
        Edge.out(x, 0, 23, 0, 0, 1, 23, 24, 0, 0);
        Check.due("none such", x.out(0, 24, 0), -2);
        x = inOnes(24, 23);
        Check.due("the green one has", x.open(0), 24);
        Edge.out(x, 0, 22, 0, 0, 1, 22, 23, 0, 0);
        Edge.out(x, 0, 23, 0, 0, 0, 23, 24, 0, 0);
        Edge.sentence("I: what there is no room for isn't put OUT, though it is a CHECKPOINT more");
        x = inOnes(25, 25);
        Check.due("the 25th has no room", x.open(0), 24);
        Edge.out(x, 0, 23, 0, 0, 0, 23, 24, 0, 0);
        Check.due("a CHECKPOINT more", x.of(0, 6), 1);
        Check.due("OPEN", x.of(0, 2), 1);
        x = inOnes(30, 30);
        Check.due("the 30th has no room", x.open(0), 24);
        Check.due("a CHECKPOINT more", x.of(0, 6), 1);
    }

    private static void roomInAnUsedLine() {
        Edge.sentence("I: what there is no room for isn't put OUT (a line that has some)");
        LongCarrier x = inOnes(20, 20);
        x.block(10, 10);
        x.block(1, 1);
        Check.due("open(0)", x.open(0), 20);
        Check.due("open(1)", x.open(1), 4);
        Check.due("open(2)", x.open(2), 0);
        Edge.out(x, 0, 23, 0, 1, 0, 3, 4, 0, 0);
        for (int block = 0; block < 3; block++) {
            Check.due("OPEN", x.of(block, 2), 1);
            Check.due("a CHECKPOINT", x.of(block, 6), 1);
        }
        x.day(1);
        Check.due("one is sent", x.out(0, -1, 0), 23);
        Edge.out(x, 0, 0, 0, 0, 0, 1, 2, 0, 0);
    }

    /** Each CHECKPOINT and REPORT rings at once and is put OUT again, so each that comes to side 1 makes its line longer. */
    private static void roomForReports() {
        Edge.sentence("I: what there is no room for isn't put OUT, though it is a REPORT more");
        LongCarrier x = PromiseTest.ruled("loses if kind = 1 then 10 else 0 end; waits 1;");
        x.tries(9);
        x.delay(1);
        for (int block = 0; block < 3; block++) {
            x.block(1, 1);
            x.open(block);
        }
        x.day(25);
        Check.due("REPORTS", x.of(0, 7) + x.of(1, 7) + x.of(2, 7), 24);
        Check.due("OUT at side 1", x.out(1, -1, 0), 24);
        x.day(1);
        Check.due("a REPORT more", x.of(0, 7), 9);
        Check.due("REPORTS", x.of(0, 7) + x.of(1, 7) + x.of(2, 7), 25);
        Check.due("OUT at side 1", x.out(1, -1, 0), 24);
        for (int i = 0; i < 24; i++) {
            Check.due("it isn't OUT", x.out(1, i, 1) == 0 && x.out(1, i, 2) == 9, false);
        }
        Check.due("the line of side 0", x.out(0, -1, 0), 3);
    }

    private static void roomForWhatRings() {
        Edge.sentence("I: what there is no room for isn't put OUT (a MESSAGE whose TIMER rings)");
        LongCarrier x = PromiseTest.ruled("loses if clock < 2 then 10 else 0 end; waits 3 - sun;");
        x.block(1, 1);
        x.block(30, 30);
        x.block(1, 1);
        x.open(0);
        x.open(2);
        x.day(2);
        Check.due("two TIMERS", x.timer(-1, 0), 2);
        x.size(1);
        Check.due("open(1)", x.open(1), 24);
        x.day(1);
        Check.due("both have rung", x.ledger(5), 2);
        Edge.counts(x, 24, 0, 1, 0);
        Edge.out(x, 0, 22, 0, 1, 0, 23, 24, 0, 0);
        Edge.out(x, 0, 23, 0, 0, 1, 0, 1, 0, 1);
        Check.due("it is OPEN", x.of(2, 2), 1);
    }

    private static void roomForAnAnswer() {
        Edge.sentence("I: what there is no room for isn't put OUT (the answer to a REPORT)");
        // got ahead of what is sent in the same tick
        LongCarrier x = inOnes(1, 1);
        x.block(30, 30);
        x.open(0);
        x.day(4);
        Check.due("open(1)", x.open(1), 24);
        x.day(1);
        Check.due("DONE", x.of(0, 2), 2);
        Edge.counts(x, 23, 0, 1, 1);
        Edge.out(x, 0, 22, 0, 1, 0, 23, 24, 0, 0);
        Edge.timer(x, 0, 1, 1, 0, 1, 8, 0);
        answerAheadOfWhatGoes();
        x = inOnes(1, 1);
        x.block(23, 23);
        x.open(0);
        x.day(4);
        Check.due("one less", x.open(1), 23);
        x.day(1);
        Edge.out(x, 0, 22, 2, 0, 1, 0, 0, 0, 0);
    }

    /** The CHECKPOINT is OUT again in a full line when its REPORT comes: the answer is to be put OUT ahead of its going. */
    private static void answerAheadOfWhatGoes() {
        LongCarrier x = PromiseTest.ruled("loses 0; waits 3;");
        x.size(1);
        x.block(1, 1);
        x.block(30, 30);
        x.open(0);
        x.day(3);
        Edge.out(x, 0, 0, 0, 0, 1, 0, 1, 0, 1);
        x.window(60, 59, 60);
        Check.due("open(1)", x.open(1), 23);
        x.day(2);
        Check.due("DONE", x.of(0, 2), 2);
        Check.due("OUT", x.out(0, -1, 0), 23);
        Edge.out(x, 0, 0, 0, 1, 0, 0, 1, 0, 0);
        Edge.out(x, 0, 22, 0, 1, 0, 22, 23, 0, 0);
    }

    private static void roomForCancellings() {
        Edge.sentence("I: what there is no room for isn't put OUT (a cancelling)");
        LongCarrier x = inOnes(1, 1);
        x.block(30, 30);
        x.open(0);
        x.day(1);
        x.open(1);
        Check.due("cancel(0, 0)", x.cancel(0, 0), true);
        Check.due("CANCELLED", x.of(0, 2), 3);
        Edge.counts(x, 24, 0, 1, 0);
        Edge.out(x, 0, 23, 0, 1, 0, 23, 24, 0, 0);
        Check.due("the other side's line has room", x.cancel(1, 1), true);
        Edge.out(x, 1, 0, 3, 1, 0, 0, 0, 0, 0);
        Check.due("what is OUT of its own makes room", x.cancel(1, 0), true);
        Edge.counts(x, 1, 1, 1, 0);
        Edge.sentence("I: what there is no room for isn't put OUT (the answer to a cancelling)");
        x = inOnes(1, 1);
        x.block(30, 30);
        x.block(1, 1);
        x.open(0);
        x.cancel(0, 1);
        x.day(2);
        x.open(1);
        x.open(2);
        x.day(1);
        Check.due("it has come", x.of(0, 2), 3);
        Edge.counts(x, 23, 0, 1, 1);
        Edge.out(x, 0, 22, 0, 1, 0, 23, 24, 0, 0);
    }

    private static void roomForGaps() {
        Edge.sentence("I: what there is no room for isn't put OUT, though it is a CHECKPOINT more (of what is not CLAIMED)");
        for (int other : new int[] {30, 22}) {
            LongCarrier x = PromiseTest.ruled("loses if clock < 2 then 10 else 0 end; waits 60;");
            x.size(2);
            x.block(6, 6);
            x.block(other, other);
            x.open(0);
            x.day(6);
            x.size(1);
            x.open(1);
            x.day(1);
            Edge.of(x, 0, 6, 6, 1, 0, 2, 2, 2, 1, 6);
            Check.due("OUT", x.out(0, -1, 0), 23);
            if (other == 30) {
                Edge.out(x, 0, 22, 0, 1, 0, 23, 24, 0, 0);
            } else {
                Edge.out(x, 0, 21, 2, 0, 1, 0, 0, 0, 0);
                Edge.out(x, 0, 22, 0, 0, 0, 0, 1, 0, 0);
            }
        }
    }

    private static void pieces(LongCarrier x, int bits, int... edges) {
        Check.due("pieces(" + bits + ")", x.pieces(bits), edges.length / 2);
        for (int i = 0; i < edges.length; i++) {
            Check.due("piece(" + bits + ", " + i / 2 + ", " + i % 2 + ")", x.piece(bits, i / 2, i % 2 == 1), edges[i]);
        }
        Check.due("none such", x.piece(bits, edges.length / 2, false), -1);
    }

    private static void piecesOfSpans() {
        Edge.sentence("I: PIECES of bits: the bytes of each SPAN from its first on, SIZE at a time, the last one what is left");
        LongCarrier x = new LongCarrier();
        pieces(x, 0);
        pieces(x, 0b1, 0, 1);
        pieces(x, 0b111, 0, 3);
        pieces(x, 0b1111, 0, 4);
        pieces(x, 0b11111, 0, 4, 4, 5);
        pieces(x, 0b11111111, 0, 4, 4, 8);
        pieces(x, 0b111111111, 0, 4, 4, 8, 8, 9);
        pieces(x, 0b111101111, 0, 4, 5, 9);
        pieces(x, 0b11011, 0, 2, 3, 5);
        pieces(x, 0b111110, 1, 5, 5, 6);
        pieces(x, 1 << 29, 29, 30);
        pieces(x, 0x3e000000, 25, 29, 29, 30);
        x.size(1);
        pieces(x, 0b111, 0, 1, 1, 2, 2, 3);
        Check.due("all by ones", x.pieces(Edge.ALL), 30);
        Check.due("the last of them", x.piece(Edge.ALL, 29, true), 30);
        Check.due("none such", x.piece(Edge.ALL, 30, true), -1);
        Check.due("none such", x.piece(Edge.ALL, 30, false), -1);
        x.size(9);
        pieces(x, Edge.ALL, 0, 9, 9, 18, 18, 27, 27, 30);
        pieces(x, 0b111111111, 0, 9);
        pieces(x, 0b1111111111, 0, 9, 9, 10);
    }

    private static void openedEdges() {
        Edge.sentence("I: OPENED: PIECES of its RED part, the last one as a CHECKPOINT; then those of its green part");
        LongCarrier x = PromiseTest.quiet(16, 8);
        Check.due("two of each", x.open(0), 4);
        Edge.out(x, 0, 0, 0, 0, 0, 0, 4, 0, 0);
        Edge.out(x, 0, 1, 0, 0, 1, 4, 8, 0, 0);
        Edge.out(x, 0, 2, 0, 0, 0, 8, 12, 0, 0);
        Edge.out(x, 0, 3, 0, 0, 0, 12, 16, 0, 0);
        x = PromiseTest.quiet(3, 2);
        Check.due("no PIECE is of both", x.open(0), 2);
        Edge.out(x, 0, 0, 0, 0, 1, 0, 2, 0, 0);
        Edge.out(x, 0, 1, 0, 0, 0, 2, 3, 0, 0);
        Edge.sentence("I: Without a RED part it is DONE at once");
        x = PromiseTest.quiet(5, 0);
        Check.due("open(0)", x.open(0), 2);
        Edge.of(x, 0, 5, 0, 2, 0, 0, 0, 0, 0, 0);
        Edge.out(x, 0, 1, 0, 0, 0, 4, 5, 0, 0);
        Edge.note(x, 0, 0, 0, 0, 0);
        Edge.note(x, 1, 0, 1, 0, 0);
        Check.due("not again", x.open(0), -1);
        x = PromiseTest.quiet(5, 1);
        x.open(0);
        Check.due("with one RED byte it is OPEN", x.of(0, 2), 1);
        x = inOnes(24, 24);
        x.block(5, 0);
        x.open(0);
        Check.due("nothing of it has room", x.open(1), 0);
        Check.due("DONE for all that", x.of(1, 2), 2);
    }

    private static void cancelledWhen() {
        Edge.sentence("I: CANCELLED by side 0 (OPEN) or by side 1 (OPEN at side 0, not CANCELLED at side 1)");
        LongCarrier x = PromiseTest.quiet(1, 1);
        Check.due("NEW, by 0", x.cancel(0, 0), false);
        Check.due("NEW, by 1", x.cancel(0, 1), false);
        x.open(0);
        Check.due("OPEN, by 1", x.cancel(0, 1), true);
        Check.due("CANCELLED at side 1, by 1", x.cancel(0, 1), false);
        Check.due("CANCELLED at side 1, by 0", x.cancel(0, 0), true);
        Check.due("CANCELLED at both, by 0", x.cancel(0, 0), false);
        Check.due("CANCELLED at both, by 1", x.cancel(0, 1), false);
        x.undo();
        x.undo();
        Check.due("OPEN, by 0", x.cancel(0, 0), true);
        Check.due("CANCELLED at side 0, by 1", x.cancel(0, 1), false);
        x.undo();
        x.day(5);
        Check.due("DONE", x.of(0, 2), 2);
        Check.due("DONE, by 0", x.cancel(0, 0), false);
        Check.due("DONE, by 1", x.cancel(0, 1), false);
    }

    /** Two BLOCKS are under way, a third is just OUT; TIMERS of BLOCK 0 and 1 at side 0, of 0 at side 1. */
    private static LongCarrier underWay() {
        LongCarrier x = PromiseTest.quiet(4, 4);
        x.size(2);
        x.block(4, 4);
        x.block(4, 4);
        x.open(0);
        x.open(1);
        x.day(4);
        x.open(2);
        x.window(60, 0, 1);
        Edge.timer(x, 0, 0, 0, 0, 1);
        Edge.timer(x, 1, 0, 0, 1, 1);
        Edge.timer(x, 2, 1, 1, 0, 1);
        return x;
    }

    private static void cancelledTakesItsOwn() {
        Edge.sentence("I: what is OUT there of that BLOCK and TIMERS of it there are gone; a cancelling is put OUT there");
        LongCarrier x = underWay();
        x.cancel(0, 0);
        Edge.counts(x, 3, 0, 3, 2);
        Edge.out(x, 0, 0, 0, 2, 0);
        Edge.out(x, 0, 1, 0, 2, 1);
        Edge.out(x, 0, 2, 3, 0, 0, 0, 0, 0, 0);
        Edge.timer(x, 0, 0, 0, 1, 1);
        Edge.timer(x, 1, 1, 1, 0, 1);
        x = underWay();
        x.cancel(0, 1);
        Edge.counts(x, 2, 1, 3, 2);
        Edge.out(x, 1, 0, 3, 0, 0, 0, 0, 0, 0);
        Edge.timer(x, 0, 0, 0, 0, 1);
        Edge.timer(x, 1, 0, 0, 1, 1);
        x = underWay();
        x.cancel(2, 0);
        Edge.counts(x, 1, 0, 3, 3);
        Edge.out(x, 0, 0, 3, 2, 0, 0, 0, 0, 0);
        x = underWay();
        x.cancel(2, 1);
        Edge.counts(x, 2, 1, 3, 3);
        // an answer to a REPORT that is OUT at side 0, too
        x = PromiseTest.ruled("loses if clock = 0 then 10 else 0 end;");
        x.size(2);
        x.block(4, 4);
        x.open(0);
        x.day(5);
        x.window(60, 59, 60);
        x.day(1);
        Edge.out(x, 0, 0, 2, 0, 1);
        x.cancel(0, 0);
        Edge.counts(x, 1, 0, 0, 1);
        Edge.out(x, 0, 0, 3, 0, 0, 0, 0, 0, 0);
        // what came of it to side 1 and is OUT there
        x = underWay();
        x.day(2);
        Edge.counts(x, 3, 1, 0, 2);
        Edge.out(x, 1, 0, 1, 1, 1);
        x.cancel(1, 1);
        Edge.counts(x, 3, 1, 0, 2);
        Edge.out(x, 1, 0, 3, 1, 0, 0, 0, 0, 0);
    }
}
