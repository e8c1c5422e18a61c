/** Promises 18 to 58, as far as they ask: what is answered at either end, to others, and where there is none such. */
final class WrongEdges {
    private static final int[] NEVER = {-2, -3, -1000, Edge.LEAST, 40, 1000, Edge.MOST};

    private WrongEdges() {
    }

    static void run() {
        of();
        spansOfBlocks();
        out();
        flightAndTimer();
        isAndSeen();
        untilAndBook();
        foretold();
        ofBlocksAlone();
        bits();
        nextAndRings();
        laws();
        ledgerAndAbout();
        whatIsNothing();
    }

    private static void of() {
        Edge.sentence("Promise 18: of: -2 for others");
        LongCarrier x = Edge.busy();
        for (int what : new int[] {-1, 9, Edge.LEAST, Edge.MOST}) {
            for (int block = 0; block < 3; block++) {
                Check.due("of(" + block + ", " + what + ")", x.of(block, what), -2);
            }
        }
        for (int block : new int[] {-1, 3, Edge.LEAST, Edge.MOST}) {
            for (int what = -1; what <= 9; what++) {
                Check.due("of(" + block + ", " + what + ")", x.of(block, what), -2);
                Check.due("of a BLOCK not told", PromiseTest.carried(0).of(1, what), -2);
            }
        }
        Edge.of(x, 0, 10, 6, 1, 0, 0, 6, 1, 1, 10);
        Edge.of(x, 1, 5, 5, 1, 0, 0, 0, 1, 0, 0);
        Edge.of(x, 2, 8, 0, 0, 0, 0, 0, 0, 0, 0);
    }

    private interface Spans {
        int of(LongCarrier x, int block, int i, boolean to);
    }

    private static void spansOfBlocks() {
        Spans[] calls = {LongCarrier::claims, LongCarrier::gaps, LongCarrier::come};
        String[] names = {"Promise 19: claims", "Promise 20: gaps", "Promise 21: come"};
        int[] count = {1, 1, 2};
        int[][] edges = {{4, 6}, {0, 4}, {0, 2, 4, 8}};
        for (int c = 0; c < 3; c++) {
            LongCarrier x = someCome();
            Edge.sentence(names[c] + ": how many SPANS (i NONE); the i-th one, from (to false), to (to true)");
            Check.due("how many", calls[c].of(x, 0, -1, false), count[c]);
            Check.due("how many", calls[c].of(x, 0, -1, true), count[c]);
            for (int i = 0; i < edges[c].length; i++) {
                Check.due("the " + i / 2, calls[c].of(x, 0, i / 2, i % 2 == 1), edges[c][i]);
            }
            Edge.sentence(names[c] + ": -2 if there is none such, and for others");
            Check.due("none such", calls[c].of(x, 0, count[c], false), -2);
            Check.due("none such", calls[c].of(x, 0, count[c], true), -2);
            for (int i : NEVER) {
                Check.due("the " + i, calls[c].of(x, 0, i, false), -2);
            }
            for (int block : new int[] {-1, 2, 3, Edge.LEAST, Edge.MOST}) {
                Check.due("of BLOCK " + block, calls[c].of(x, block, -1, false), -2);
                Check.due("of BLOCK " + block, calls[c].of(x, block, 0, true), -2);
            }
            Check.due("of a NEW one", calls[c].of(x, 1, -1, false), c == 1 ? 1 : 0);
            Check.due("of a NEW one", calls[c].of(x, 1, 0, true), c == 1 ? 3 : -2);
        }
    }

    /** Of 8 bytes, 6 red, by two: 0 to 4 are lost, 4 to 6 are CLAIMED, 0 to 2 have come when sent again, 2 to 4 have not. */
    private static LongCarrier someCome() {
        LongCarrier x = PromiseTest.ruled("loses if clock < 2 then 10 else 0 end; waits 60;");
        x.size(2);
        x.block(8, 6);
        x.block(3, 3);
        x.open(0);
        x.day(10);
        return x;
    }

    private static void out() {
        Edge.sentence("Promise 22: out: -2 if there is none such, and for others");
        LongCarrier x = PromiseTest.carried(0);
        x.cancel(0, 1);
        for (int what = -1; what <= 9; what++) {
            Check.due("what " + what, x.out(0, 2, what), new int[] {-2, 0, 0, 0, 6, 10, 0, 0, -2, -2, -2}[what + 1]);
            Check.due("what " + what, x.out(1, 0, what), new int[] {-2, 3, 0, 0, 0, 0, 0, 0, -2, -2, -2}[what + 1]);
            Check.due("none such", x.out(0, 3, what), -2);
            Check.due("none such", x.out(1, 1, what), -2);
            for (int side : new int[] {-1, 2, Edge.LEAST, Edge.MOST}) {
                Check.due("of side " + side, x.out(side, 0, what), -2);
                Check.due("of side " + side, x.out(side, -1, what), -2);
            }
        }
        for (int i : NEVER) {
            Check.due("the " + i, x.out(0, i, 0), -2);
            Check.due("the " + i, x.out(1, i, 0), -2);
        }
        for (int what : NEVER) {
            Check.due("what " + what, x.out(0, 0, what), -2);
        }
        Check.due("how many", x.out(0, -1, 0), 3);
        Check.due("how many", x.out(1, -1, 6), 1);
    }

    private static void flightAndTimer() {
        Edge.sentence("Promise 23: flight: -2 if there is none such, and for others");
        LongCarrier x = PromiseTest.carried(4);
        for (int what = -1; what <= 10; what++) {
            Check.due("what " + what, x.flight(1, what), new int[] {-2, 1, 0, 1, 0, 1, 63, 0, 5, 0, -2, -2}[what + 1]);
            Check.due("none such", x.flight(2, what), -2);
        }
        Edge.sentence("Promise 24: timer: -2 likewise");
        for (int what = -1; what <= 7; what++) {
            Check.due("what " + what, x.timer(1, what), new int[] {-2, 1, 1, 0, 1, 9, 0, -2, -2}[what + 1]);
            Check.due("none such", x.timer(2, what), -2);
        }
        for (int wrong : NEVER) {
            Edge.sentence("Promise 23: flight: -2 if there is none such, and for others");
            Check.due("the " + wrong, x.flight(wrong, 0), -2);
            Check.due("what " + wrong, x.flight(0, wrong), -2);
            Edge.sentence("Promise 24: timer: -2 likewise");
            Check.due("the " + wrong, x.timer(wrong, 0), -2);
            Check.due("what " + wrong, x.timer(0, wrong), -2);
        }
        Check.due("how many", x.timer(-1, 0), 2);
        Check.due("how many", x.flight(-1, 8), 2);
    }

    private static void isAndSeen() {
        Edge.sentence("Promise 25: is: -2 for others");
        LongCarrier x = Edge.busy();
        for (int wrong : new int[] {-1, 5, Edge.LEAST, Edge.MOST}) {
            Check.due("is(" + wrong + ")", x.is(wrong), -2);
        }
        Edge.sentence("Promise 25: is: how many MESSAGES were sent, how many were lost");
        x = PromiseTest.ruled("loses if clock = 0 then 10 else 0 end;");
        x.block(8, 8);
        x.open(0);
        x.cancel(0, 1);
        Check.due("none", x.is(3) + x.is(4), 0);
        x.day(1);
        Check.due("sent", x.is(3), 2);
        Check.due("lost", x.is(4), 2);
        x.day(1);
        Check.due("sent", x.is(3), 3);
        Check.due("lost", x.is(4), 2);
        Edge.sentence("Promise 26: seen: False for others (0 .. 999)");
        x = new LongCarrier();
        Check.due("seen(-1)", x.seen(-1), false);
        Check.due("seen(0)", x.seen(0), true);
        Check.due("seen(999)", x.seen(999), true);
        Check.due("seen(1000)", x.seen(1000), false);
        Check.due("seen(least)", x.seen(Edge.LEAST), false);
        Check.due("seen(most)", x.seen(Edge.MOST), false);
        x = Edge.at(9999);
        x.window(7, 3, 4);
        // 9999 mod 7 is 3
        Check.due("seen(0) at 9999", x.seen(0), true);
        Check.due("seen(1) at 9999", x.seen(1), false);
        Check.due("seen(994) at 9999", x.seen(994), true);
        Check.due("seen(999) at 9999", x.seen(999), false);
    }

    private static void untilAndBook() {
        Edge.sentence("Promise 27: until: NONE for others (0 .. 60)");
        LongCarrier x = Edge.busy();
        for (int wrong : Edge.beyond(0, 60)) {
            Check.due("until(" + wrong + ")", x.until(wrong), -1);
        }
        Check.due("until(0)", x.until(0), 0);
        Edge.sentence("Promise 28: book: -2 if there is none such, and for others");
        x = PromiseTest.carried(9);
        Check.due("how many", x.book(-1, 0), 2);
        Check.due("how many", x.book(-1, 3), 2);
        for (int what = -1; what <= 4; what++) {
            Check.due("what " + what, x.book(1, what), new int[] {-2, 5, 1, 0, 0, -2}[what + 1]);
            Check.due("none such", x.book(2, what), -2);
        }
        for (int wrong : NEVER) {
            Check.due("the " + wrong, x.book(wrong, 0), -2);
            Check.due("what " + wrong, x.book(0, wrong), -2);
        }
    }

    private static void foretold() {
        Edge.sentence("Promise 29: foretold: -2 for others (1 .. 60)");
        LongCarrier x = Edge.busy();
        for (int wrong : Edge.beyond(1, 60)) {
            Check.due("foretold(" + wrong + ", 0, 0)", x.foretold(wrong, 0, 0), -2);
        }
        for (int wrong : new int[] {-1, 3, Edge.LEAST, Edge.MOST}) {
            Check.due("foretold(1, " + wrong + ", 0)", x.foretold(1, wrong, 0), -2);
        }
        for (int wrong : new int[] {-1, 9, Edge.LEAST, Edge.MOST}) {
            Check.due("foretold(1, 0, " + wrong + ")", x.foretold(1, 0, wrong), -2);
        }
        Check.due("foretold(1, 0, 0)", x.foretold(1, 0, 0), 10);
        Check.due("foretold(60, 0, 1)", x.foretold(60, 0, 1), 6);
        Check.due("of a BLOCK not told", PromiseTest.carried(0).foretold(1, 1, 0), -2);
    }

    private static void ofBlocksAlone() {
        LongCarrier x = PromiseTest.quiet(4, 4);
        for (int wrong : new int[] {-1, 1, 2, 3, Edge.LEAST, Edge.MOST}) {
            Edge.sentence("Promise 30: till: NONE: it is not OPEN, and for others");
            Check.due("till(" + wrong + ")", x.till(wrong), -1);
            Edge.sentence("Promise 31: ideal: NONE likewise (and if it is not NEW)");
            Check.due("ideal(" + wrong + ")", x.ideal(wrong), -1);
            Edge.sentence("Promise 32: whole: False for others");
            Check.due("whole(" + wrong + ")", x.whole(wrong), false);
            Edge.sentence("Promise 44: odds: NONE, if it is not NEW, and for others");
            Check.due("odds(" + wrong + ", false)", x.odds(wrong, false), -1);
            Check.due("odds(" + wrong + ", true)", x.odds(wrong, true), -1);
            Edge.sentence("Promise 45: resent: NONE for others");
            Check.due("resent(" + wrong + ")", x.resent(wrong), -1);
        }
        for (int is = 0; is <= 3; is++) {
            x = PromiseTest.quiet(4, 4);
            if (is > 0) {
                x.open(0);
            }
            if (is == 2) {
                x.day(5);
            }
            if (is == 3) {
                x.cancel(0, 0);
            }
            Check.due("how it is", x.of(0, 2), is);
            Edge.sentence("Promise 30: till: NONE: it is not OPEN");
            Check.due("till, " + is, x.till(0), is == 1 ? 5 : -1);
            Edge.sentence("Promise 31: ideal: NONE if it is not NEW");
            Check.due("ideal, " + is, x.ideal(0), is == 0 ? 5 : -1);
            Edge.sentence("Promise 44: odds: NONE, if it is not NEW");
            Check.due("odds, " + is, x.odds(0, true), is == 0 ? 1 : -1);
            Edge.sentence("Promise 45: resent");
            Check.due("resent, " + is, x.resent(0), 0);
            Edge.sentence("Promise 32: whole");
            Check.due("whole, " + is, x.whole(0), is == 2);
        }
    }

    private static void bits() {
        LongCarrier x = new LongCarrier();
        for (int wrong : Edge.beyond(0, Edge.ALL)) {
            Edge.sentence("Promise 33: spans: NONE for others (0 .. 2^30 - 1)");
            Check.due("spans(" + wrong + ")", x.spans(wrong), -1);
            Edge.sentence("Promise 34: span: NONE for others");
            Check.due("span(" + wrong + ", 0, false)", x.span(wrong, 0, false), -1);
            Check.due("span(" + wrong + ", 0, true)", x.span(wrong, 0, true), -1);
            Edge.sentence("Promise 35: within: NONE for others");
            Check.due("within(" + wrong + ", 0, 30)", x.within(wrong, 0, 30), -1);
            Check.due("within(" + wrong + ", 0, 0)", x.within(wrong, 0, 0), -1);
            Edge.sentence("Promise 36: pieces: NONE for others");
            Check.due("pieces(" + wrong + ")", x.pieces(wrong), -1);
            Edge.sentence("Promise 37: piece: NONE for others");
            Check.due("piece(" + wrong + ", 0, false)", x.piece(wrong, 0, false), -1);
            Check.due("piece(" + wrong + ", 0, true)", x.piece(wrong, 0, true), -1);
            Edge.sentence("Promise 38: join: NONE for others (0 .. 2^30 - 1 each)");
            Check.due("join(" + wrong + ", 0)", x.join(wrong, 0), -1);
            Check.due("join(0, " + wrong + ")", x.join(0, wrong), -1);
            Check.due("join(" + wrong + ", same)", x.join(wrong, wrong), -1);
            Edge.sentence("Promise 39: less: NONE for others (likewise)");
            Check.due("less(" + wrong + ", 0)", x.less(wrong, 0), -1);
            Check.due("less(0, " + wrong + ")", x.less(0, wrong), -1);
            Check.due("less(" + wrong + ", same)", x.less(wrong, wrong), -1);
            Edge.sentence("Promise 40: longest: NONE for others (likewise)");
            Check.due("longest(" + wrong + ")", x.longest(wrong), -1);
        }
        bitsAtTheirEnds(x);
    }

    private static void bitsAtTheirEnds(LongCarrier x) {
        for (int bits : new int[] {0, Edge.ALL}) {
            boolean none = bits == 0;
            Edge.sentence("Promises 33 to 40: 0 and 2^30 - 1 are taken");
            Check.due("spans", x.spans(bits), none ? 0 : 1);
            Check.due("span", x.span(bits, 0, true), none ? -1 : 30);
            Check.due("pieces", x.pieces(bits), none ? 0 : 8);
            Check.due("piece", x.piece(bits, 7, true), none ? -1 : 30);
            Check.due("piece", x.piece(bits, 7, false), none ? -1 : 28);
            Check.due("within", x.within(bits, 0, 30), bits);
            Check.due("join", x.join(bits, bits), bits);
            Check.due("less", x.less(bits, 0), bits);
            Check.due("longest", x.longest(bits), none ? 0 : 30);
            for (int i : NEVER) {
                Edge.sentence("Promise 34: span: NONE: there is none such");
                Check.due("span " + i, x.span(bits, i, false), -1);
                Edge.sentence("Promise 37: piece: NONE: there is none such");
                Check.due("piece " + i, x.piece(bits, i, false), -1);
            }
            Edge.sentence("Promise 34: span: NONE: there is none such");
            Check.due("span -1", x.span(bits, -1, false), -1);
            Check.due("span 1", x.span(bits, 1, false), -1);
            Edge.sentence("Promise 37: piece: NONE: there is none such");
            Check.due("piece -1", x.piece(bits, -1, true), -1);
            Check.due("piece 8", x.piece(bits, 8, true), -1);
        }
        Edge.sentence("Promise 35: within: NONE for others (0 to to, to 30)");
        int[][] wrongs = {{-1, 0}, {-1, 30}, {1, 0}, {30, 29}, {0, 31}, {31, 31}, {31, 30}, {Edge.LEAST, 0}, {0, Edge.MOST},
            {Edge.MOST, Edge.LEAST}, {0, -1}};
        for (int[] w : wrongs) {
            Check.due("within(5, " + w[0] + ", " + w[1] + ")", x.within(5, w[0], w[1]), -1);
        }
    }

    private static void nextAndRings() {
        LongCarrier x = PromiseTest.carried(4);
        for (int wrong : Edge.beyond(0, 1)) {
            Edge.sentence("Promise 41: next: NONE: nothing is OUT there, and for others");
            Check.due("next(" + wrong + ")", PromiseTest.carried(0).next(wrong), -1);
            Edge.sentence("Promise 43: rings: NONE: there is none such");
            Check.due("rings(" + wrong + ")", x.rings(wrong), -1);
        }
        Edge.sentence("Promise 43: rings: A TIMER RINGS: in which TICK");
        Check.due("rings(0)", x.rings(0), 3);
        Check.due("rings(1)", x.rings(1), 5);
        Check.due("rings(2)", x.rings(2), -1);
        Check.due("none at all", new LongCarrier().rings(0), -1);
        Edge.sentence("Promise 41: next: NONE: nothing is OUT there");
        Check.due("next(0)", x.next(0), -1);
        Check.due("next(1)", x.next(1), -1);
        Check.due("next(0), there being some", PromiseTest.carried(0).next(0), 0);
    }

    private static void laws() {
        LongCarrier x = Edge.busy();
        int[] wrongBlocks = {-1, 3, Edge.LEAST, Edge.MOST};
        int[] wrongKinds = {-1, 5, Edge.LEAST, Edge.MOST};
        Edge.sentence("Promise 50: loses: NONE for others (BLOCKS; 0 .. 4)");
        for (int wrong : wrongBlocks) {
            Check.due("loses(" + wrong + ", 0)", x.loses(wrong, 0), -1);
            Check.due("loses(" + wrong + ", 4)", x.loses(wrong, 4), -1);
        }
        for (int wrong : wrongKinds) {
            Check.due("loses(0, " + wrong + ")", x.loses(0, wrong), -1);
        }
        for (int kind = 0; kind <= 4; kind++) {
            Check.due("loses(2, " + kind + ")", x.loses(2, kind), kind == 1 ? 10 : 0);
        }
        Check.due("of one not told", PromiseTest.carried(0).loses(1, 0), -1);
        Edge.sentence("Promise 50: loses now, of a MESSAGE of no bytes");
        Check.due("no bytes", bytesAlone().loses(0, 0), 3);
        Edge.sentence("Promise 51: waits: NONE for others (BLOCKS; 0 .. 4; 0 .. 9)");
        for (int wrong : wrongBlocks) {
            Check.due("waits(" + wrong + ", 0, 0)", x.waits(wrong, 0, 0), -1);
        }
        for (int wrong : wrongKinds) {
            Check.due("waits(0, " + wrong + ", 0)", x.waits(0, wrong, 0), -1);
        }
        for (int wrong : Edge.beyond(0, 9)) {
            Check.due("waits(0, 0, " + wrong + ")", x.waits(0, 0, wrong), -1);
        }
        for (int tried = 0; tried <= 9; tried++) {
            Check.due("waits(2, 4, " + tried + ")", x.waits(2, 4, tried), 4 + tried);
        }
        Check.due("of one not told", PromiseTest.carried(0).waits(1, 0, 0), -1);
    }

    private static LongCarrier bytesAlone() {
        LongCarrier x = PromiseTest.ruled("loses bytes + 3;");
        x.block(9, 9);
        return x;
    }

    private static void ledgerAndAbout() {
        LongCarrier x = Edge.busy();
        Edge.sentence("Promise 55: ledger: -2 for others (0 .. 5)");
        for (int wrong : Edge.beyond(0, 5)) {
            Check.due("ledger(" + wrong + ")", x.ledger(wrong), -2);
        }
        Edge.sentence("Promise 58: about: -2 for others");
        for (int wrong : Edge.beyond(0, 8)) {
            Check.due("about(" + wrong + ")", x.about(wrong), -2);
        }
        Edge.sentence("Promise 58: about");
        int[] about = {3, 2, 0, 6, 2, 42, 3, 2, 4};
        for (int what = 0; what <= 8; what++) {
            Check.due("about(" + what + ")", x.about(what), about[what]);
        }
    }

    private static void whatIsNothing() {
        LongCarrier x = new LongCarrier();
        Edge.sentence("Promises 41, 46, 47, 52 to 54: of a new one");
        Check.due("next(0)", x.next(0), -1);
        Check.due("idle", x.idle(), true);
        Check.due("live", x.live(), 0);
        Check.due("soonest: NONE: none", x.soonest(), -1);
        Check.due("busiest: NONE: none", x.busiest(), -1);
        Check.due("honest", x.honest(), true);
        Check.due("round", x.round(), 4);
        Check.due("whose", x.whose(), 0);
        Check.due("undo", x.undo(), -1);
    }
}
