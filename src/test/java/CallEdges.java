/** Promises 1 to 17, 48, 56 and 57: the last that is taken, the first that is refused, and that a refused call leaves all as it was. */
final class CallEdges {
    private CallEdges() {
    }

    static void run() {
        newObject();
        block();
        blockFull();
        window();
        delaySizeTries();
        feed();
        end();
        textFull();
        textWithFault();
        fault();
        by();
        open();
        cancel();
        day();
        dayBeyond();
        played();
        years();
        undo();
        said();
        imageAndBack();
        fiveHundredCalls();
    }

    private static LongCarrier carried() {
        return PromiseTest.carried(4);
    }

    private static void refused(String name, Edge.Call call, long want) {
        Edge.leaves(name, Edge::busy, call, want);
        Edge.leaves(name, CallEdges::carried, call, want);
    }

    private static void newObject() {
        Edge.sentence("Promise 1: LongCarrier(): Nothing to carry yet");
        LongCarrier x = new LongCarrier();
        for (int what = 0; what <= 8; what++) {
            Check.due("about(" + what + ")", x.about(what), what == 2 ? -1 : what == 6 ? 2 : what == 7 ? 4 : what == 8 ? 3 : 0);
            Check.due("of(0, " + what + ")", x.of(0, what), -2);
        }
        Edge.counts(x, 0, 0, 0, 0);
        Check.due("lines", x.book(-1, 0), 0);
        Check.due("idle", x.idle(), true);
        Edge.sentence("Promise 1: LongCarrier(): THE IMAGE is this");
        x = Edge.busy();
        x.image();
        LongCarrier y = new LongCarrier();
        Check.due("one object's image isn't the other's", y.back(), 0);
        Edge.same("BACK at once", y, new LongCarrier());
        x = PromiseTest.carried(5);
        x.said(1, 1);
        x.window(3, 1, 2);
        x.size(3);
        x.tries(1);
        Check.due("back", x.back(), 0);
        Check.text(x, "x");
        y = new LongCarrier();
        Check.text(y, "x");
        Edge.same("BACK to what was new", x, y);
    }

    private static void block() {
        Edge.sentence("Promise 2: block: NONE for others (1 .. 30; 0 to length)");
        for (int wrong : Edge.beyond(1, 30)) {
            Edge.leaves("block(" + wrong + ", 0)", CallEdges::carried, x -> x.block(wrong, 0), -1);
            Edge.leaves("block(" + wrong + ", 1)", CallEdges::carried, x -> x.block(wrong, 1), -1);
            Edge.leaves("block(" + wrong + ", same)", CallEdges::carried, x -> x.block(wrong, wrong), -1);
        }
        for (int length : new int[] {1, 5, 30}) {
            for (int wrong : Edge.beyond(0, length)) {
                Edge.leaves("block(" + length + ", " + wrong + ")", CallEdges::carried, x -> x.block(length, wrong), -1);
            }
            for (int red : new int[] {0, 1, length}) {
                LongCarrier x = carried();
                Check.due("block(" + length + ", " + red + ")", x.block(length, red), 1);
                Edge.of(x, 1, length, red, 0, 0, 0, 0, 0, 0, 0);
            }
        }
    }

    private static void blockFull() {
        Edge.sentence("Promise 2: block: NONE if there are 3");
        LongCarrier x = carried();
        Check.due("a second", x.block(3, 2), 1);
        Check.due("a third", x.block(4, 1), 2);
        Check.due("a fourth", x.block(4, 1), -1);
        Edge.leaves("block(1, 1)", Edge::busy, y -> y.block(1, 1), -1);
        Edge.leaves("block(30, 0)", Edge::busy, y -> y.block(30, 0), -1);
        Edge.leaves("block(0, 0)", Edge::busy, y -> y.block(0, 0), -1);
    }

    private static void window() {
        Edge.sentence("Promise 3: window: False for others (1 .. 60; from below to, to period at most)");
        for (int wrong : Edge.beyond(1, 60)) {
            refused("window(" + wrong + ", 0, 1)", x -> Edge.bit(x.window(wrong, 0, 1)), 0);
            refused("window(" + wrong + ", 0, 0)", x -> Edge.bit(x.window(wrong, 0, 0)), 0);
        }
        int[][] wrongs = {{5, 2, 2}, {5, 3, 2}, {5, 0, 0}, {5, 5, 5}, {5, 0, 6}, {5, 5, 6}, {5, 4, 6}, {5, 0, Edge.MOST}, {5, -2, -1},
            {5, Edge.LEAST, 0}, {5, -1, 0}, {5, Edge.MOST, Edge.LEAST}, {60, 0, 61}, {60, 60, 61}, {1, 0, 2}, {1, 1, 1}, {1, 1, 2},
            {61, 0, 61}};
        for (int[] w : wrongs) {
            String name = "window(" + w[0] + ", " + w[1] + ", " + w[2] + ")";
            refused(name, x -> Edge.bit(x.window(w[0], w[1], w[2])), 0);
        }
        int[][] rights = {{1, 0, 1}, {2, 0, 1}, {2, 0, 2}, {2, 1, 2}, {60, 0, 1}, {60, 0, 60}, {60, 59, 60}, {5, 4, 5}, {5, 0, 5}};
        for (int[] w : rights) {
            LongCarrier x = new LongCarrier();
            Check.due("window(" + w[0] + ", " + w[1] + ", " + w[2] + ")", x.window(w[0], w[1], w[2]), true);
            for (int n = 0; n < 120; n++) {
                Check.due("seen(" + n + ")", x.seen(n), n % w[0] >= w[1] && n % w[0] < w[2]);
            }
        }
    }

    private static void delaySizeTries() {
        Edge.sentence("Promise 4: delay: False for others (1 .. 20)");
        for (int wrong : Edge.beyond(1, 20)) {
            refused("delay(" + wrong + ")", x -> Edge.bit(x.delay(wrong)), 0);
        }
        Edge.sentence("Promise 5: size: False for others (1 .. 9)");
        for (int wrong : Edge.beyond(1, 9)) {
            refused("size(" + wrong + ")", x -> Edge.bit(x.size(wrong)), 0);
        }
        Edge.sentence("Promise 6: tries: False for others (0 .. 9)");
        for (int wrong : Edge.beyond(0, 9)) {
            refused("tries(" + wrong + ")", x -> Edge.bit(x.tries(wrong)), 0);
        }
        LongCarrier x = new LongCarrier();
        for (int n = 0; n <= 20; n++) {
            Edge.sentence("Promise 4: delay: DELAY told: true (1 .. 20)");
            Check.due("delay(" + n + ")", x.delay(n), n >= 1);
            Check.due("DELAY", x.about(6), n == 0 ? 2 : n);
            Edge.sentence("Promise 5: size: SIZE told: true (1 .. 9)");
            Check.due("size(" + n + ")", x.size(n), n >= 1 && n <= 9);
            Check.due("SIZE", x.about(7), n == 0 ? 4 : Math.min(9, n));
            Edge.sentence("Promise 6: tries: TRIES told: true (0 .. 9)");
            Check.due("tries(" + n + ")", x.tries(n), n <= 9);
            Check.due("TRIES", x.about(8), Math.min(9, n));
        }
    }

    /** The tape has so many bytes, the last of them a sign that is no TOKEN. */
    private static LongCarrier tapeOf(int length) {
        LongCarrier x = carried();
        Check.tape(x, " ".repeat(length - 1) + "!");
        return x;
    }

    private static void feed() {
        Edge.sentence("Promise 7: feed: NONE, and none come, if there would be more than 300");
        for (int length : new int[] {281, 282, 299, 300}) {
            Edge.leaves("feed behind " + length, () -> tapeOf(length), x -> x.feed(0x64617920, 1, 2, 3, 4), -1);
        }
        for (int length : new int[] {1, 260, 279, 280}) {
            LongCarrier x = tapeOf(length);
            Check.due("feed behind " + length, x.feed(0x21212121, 0x21212121, 0x21212121, 0x21212121, 0x21212121), length + 20);
            Check.due("the tape", x.about(5), length + 20);
            x.text();
            Check.due("what it had is ahead", x.fault(1), length - 1);
        }
        Edge.sentence("Promise 7: feed: Twenty bytes, the highest of a first");
        for (int place = 0; place < 20; place++) {
            int[] words = {0x20202020, 0x20202020, 0x20202020, 0x20202020, 0x20202020};
            words[place / 4] = 0x20202020 | 0xff << 8 * (3 - place % 4);
            LongCarrier x = new LongCarrier();
            Check.due("feed", x.feed(words[0], words[1], words[2], words[3], words[4]), 20);
            Check.due("text", x.text(), -1);
            Check.due("it is byte " + place, x.fault(1), place);
        }
    }

    private static void end() {
        Edge.sentence("Promise 8: end: NONE, and nothing is done, if it has not so many, or n is below 0");
        for (int length : new int[] {1, 20, 300}) {
            for (int wrong : Edge.beyond(0, length)) {
                Edge.leaves("end(" + wrong + ") of " + length, () -> tapeOf(length), x -> x.end(wrong), -1);
            }
            Edge.leaves("end(" + length + ") of so many", () -> tapeOf(length), x -> x.end(length), length);
            LongCarrier x = tapeOf(length);
            Check.due("one less", x.end(length - 1), length - 1);
            Check.due("the tape", x.about(5), length - 1);
            Check.due("not so many any more", x.end(length), -1);
            Check.due("none", x.end(0), 0);
            Check.due("the tape", x.about(5), 0);
        }
        LongCarrier x = new LongCarrier();
        Check.due("of none", x.end(0), 0);
        Check.due("of none", x.end(1), -1);
        Edge.sentence("Promise 8: end: The tape has its first n bytes alone");
        Check.tape(x, "day 1; !");
        Check.due("end(6)", x.end(6), 6);
        Check.due("text", x.text(), 0);
    }

    private static LongCarrier fourTexts() {
        LongCarrier x = carried();
        Check.text(x, "day 1");
        for (int n = 1; n < 4; n++) {
            Check.due("text", Check.text(x, "loses " + n + ";"), n);
        }
        Check.due("with a FAULT though not read", Check.text(x, "!"), -1);
        x.end(0);
        Check.tape(x, "day 3");
        return x;
    }

    private static void textFull() {
        Edge.sentence("Promise 9: text: NONE: (the tape stays) there are 4");
        LongCarrier x = fourTexts();
        Check.due("four", x.about(1), 4);
        Check.due("the FAULT of the latest that was read", x.fault(0), 0);
        Check.due("its place", x.fault(1), -1);
        Check.due("a fifth", x.text(), -1);
        Check.due("the tape stays", x.about(5), 5);
        Check.due("the FAULT stays", x.fault(0), 0);
        Check.due("and can be gone on with", x.feed(0x3b202020, 0x20202020, 0x20202020, 0x20202020, 0x20202020), 25);
        x.back();
        Check.due("when there is room", x.text(), 0);
        Check.due("it says what it said", x.played(0), -1);
        Check.due("three TICKS", x.is(0), 3);
        Edge.leaves("text, there being 4", CallEdges::fourTexts, y -> y.text(), -1);
    }

    private static void textWithFault() {
        Edge.sentence("Promise 9: text: The tape (empty then) is a TEXT: NONE: it has a FAULT");
        LongCarrier x = new LongCarrier();
        Check.due("none to be read: a TEXT", x.text(), 0);
        Check.due("with a FAULT", Check.text(x, "day 3"), -1);
        Check.due("TEXTS", x.about(1), 1);
        Check.due("empty then", x.about(5), 0);
        Check.due("none to be played", x.played(1), -2);
        Check.due("none to rule", x.by(1), false);
        Check.due("the next one's number", Check.text(x, "day 3;"), 1);
        Check.due("empty then", x.about(5), 0);
        Check.due("end of none", x.end(1), -1);
    }

    private static void fault() {
        Edge.sentence("Promise 10: fault: NONE for others, and ahead of any");
        LongCarrier x = new LongCarrier();
        int[] whats = {-1, 0, 1, 2, Edge.LEAST, Edge.MOST};
        for (int what : whats) {
            Check.due("ahead of any", x.fault(what), -1);
        }
        x.feed(1, 1, 1, 1, 1);
        x.end(0);
        Check.due("none was read", x.fault(0), -1);
        x.text();
        int[] without = {-1, 0, -1, -1, -1, -1};
        Check.text(x, "day 1; day 10000;");
        int[] with = {-1, 2, 11, -1, -1, -1};
        for (int i = 0; i < whats.length; i++) {
            Check.due("with one, " + whats[i], x.fault(whats[i]), with[i]);
        }
        Check.text(x, "day 1;");
        for (int i = 0; i < whats.length; i++) {
            Check.due("without, " + whats[i], x.fault(whats[i]), without[i]);
        }
    }

    private static void by() {
        Edge.sentence("Promise 11: by: THE TEXT (NONE: none): true. False for others");
        for (int wrong : new int[] {-2, 2, 3, 4, Edge.LEAST, Edge.MOST}) {
            Edge.leaves("by(" + wrong + ")", Edge::busy, x -> Edge.bit(x.by(wrong)), 0);
        }
        Edge.leaves("by(0)", CallEdges::fresh, x -> Edge.bit(x.by(0)), 0);
        Edge.leaves("by(-1)", CallEdges::fresh, x -> Edge.bit(x.by(-1)), 1);
        LongCarrier x = fourTexts();
        for (int text : new int[] {3, 0, -1, 2, 1}) {
            Check.due("by(" + text + ")", x.by(text), true);
            Check.due("THE TEXT", x.about(2), text);
            Check.due("loses by it", x.loses(0, 0), text < 0 ? 2 : text);
        }
        Check.due("by(4)", x.by(4), false);
        Check.due("THE TEXT", x.about(2), 1);
    }

    private static LongCarrier fresh() {
        return new LongCarrier();
    }

    private static void open() {
        Edge.sentence("Promise 12: open: NONE, if it is not NEW, and for others");
        for (int wrong : Edge.beyond(0, 2)) {
            refused("open(" + wrong + ")", x -> x.open(wrong), -1);
        }
        refused("OPEN", x -> x.open(0), -1);
        Edge.leaves("not told", CallEdges::carried, x -> x.open(1), -1);
        Edge.leaves("not told", CallEdges::fresh, x -> x.open(0), -1);
        Edge.leaves("DONE", () -> PromiseTest.carried(9), x -> x.open(0), -1);
        Edge.leaves("CANCELLED at side 0", () -> cancelled(0), x -> x.open(0), -1);
        Edge.leaves("CANCELLED at side 1", () -> cancelled(1), x -> x.open(0), -1);
    }

    private static LongCarrier cancelled(int side) {
        LongCarrier x = carried();
        x.cancel(0, side);
        return x;
    }

    private static void cancel() {
        Edge.sentence("Promise 13: cancel: False, if it can't be, and for others");
        for (int wrong : Edge.beyond(0, 1)) {
            refused("cancel(0, " + wrong + ")", x -> Edge.bit(x.cancel(0, wrong)), 0);
        }
        for (int side = 0; side < 2; side++) {
            int by = side;
            for (int wrong : Edge.beyond(0, 2)) {
                refused("cancel(" + wrong + ", " + by + ")", x -> Edge.bit(x.cancel(wrong, by)), 0);
            }
            Edge.leaves("not told", CallEdges::carried, x -> Edge.bit(x.cancel(1, by)), 0);
            Edge.leaves("not told", CallEdges::fresh, x -> Edge.bit(x.cancel(0, by)), 0);
            Edge.leaves("NEW", () -> PromiseTest.quiet(3, 3), x -> Edge.bit(x.cancel(0, by)), 0);
            Edge.leaves("DONE", () -> PromiseTest.carried(9), x -> Edge.bit(x.cancel(0, by)), 0);
            Edge.leaves("CANCELLED at that side", () -> cancelled(by), x -> Edge.bit(x.cancel(0, by)), 0);
        }
        Edge.leaves("CANCELLED at side 0, by side 1", () -> cancelled(0), x -> Edge.bit(x.cancel(0, 1)), 0);
        Check.due("CANCELLED at side 1, by side 0", cancelled(1).cancel(0, 0), true);
    }

    private static void day() {
        Edge.sentence("Promise 14: day: NONE for others (1 .. 30)");
        for (int wrong : Edge.beyond(1, 30)) {
            refused("day(" + wrong + ")", x -> x.day(wrong), -1);
        }
        LongCarrier x = new LongCarrier();
        Check.due("day(30)", x.day(30), 0);
        Check.due("CLOCK", x.is(0), 30);
        Check.due("day(1)", x.day(1), 0);
        Check.due("CLOCK", x.is(0), 31);
        Edge.sentence("Promise 14: day: how many MESSAGES are sent in them");
        x = PromiseTest.quiet(10, 6);
        x.open(0);
        x.cancel(0, 1);
        Check.due("two in one", x.day(1), 2);
        // the CHECKPOINT, and the answer to the cancelling, that takes what else is OUT
        Check.due("two in the others", x.day(30), 2);
        Check.due("in all", x.is(3), 4);
        x = PromiseTest.ruled("loses 10; waits 60;");
        x.block(10, 6);
        x.open(0);
        Check.due("lost ones, too", x.day(30), 3);
    }

    private static void dayBeyond() {
        Edge.sentence("Promise 14: day: NONE beyond 9999 (nothing is done then)");
        for (int left = 0; left <= 30; left++) {
            LongCarrier x = Edge.at(9999 - left);
            int some = left;
            if (left < 30 && left % 7 < 2) {
                Edge.leaves("day(" + (left + 1) + ") of " + left, () -> openedAt(9999 - some), y -> y.day(some + 1), -1);
            }
            if (left > 0) {
                Check.due("day(" + left + ")", x.day(left), 0);
                Check.due("CLOCK", x.is(0), 9999);
            }
            Check.due("day(1) at 9999", x.day(1), -1);
            Check.due("day(30) at 9999", x.day(30), -1);
        }
    }

    private static LongCarrier openedAt(int clock) {
        LongCarrier x = Edge.at(clock);
        x.block(10, 6);
        x.open(0);
        return x;
    }

    private static void played() {
        Edge.sentence("Promise 15: played: -2 for others");
        for (int wrong : new int[] {-2, -1, 2, 3, 4, Edge.LEAST, Edge.MOST}) {
            Edge.leaves("played(" + wrong + ")", Edge::busy, x -> x.played(wrong), -2);
        }
        Edge.leaves("played(0)", CallEdges::fresh, x -> x.played(0), -2);
        Edge.leaves("laws alone: nothing", Edge::busy, x -> x.played(0), -1);
        LongCarrier x = fourTexts();
        Check.due("played(3)", x.played(3), -1);
        Check.due("played(4)", x.played(4), -2);
    }

    private static void years() {
        Edge.sentence("Promise 16: years: NONE for others (SEED 0 .. 9999; 1 .. 40)");
        for (int wrong : Edge.beyond(0, 9999)) {
            refused("years(" + wrong + ", 1)", x -> x.years(wrong, 1), -1);
        }
        for (int wrong : Edge.beyond(1, 40)) {
            refused("years(0, " + wrong + ")", x -> x.years(0, wrong), -1);
        }
    }

    private static void undo() {
        Edge.sentence("Promise 17: undo: NONE: there is none");
        Edge.leaves("undo", CallEdges::fresh, x -> x.undo(), -1);
        Edge.leaves("undo, all being taken back", () -> taken(carried()), x -> x.undo(), -1);
        Edge.leaves("undo, the latest 30 being taken back", () -> taken(Edge.at(50)), x -> x.undo(), -1);
        Edge.leaves("undo of what is told", () -> PromiseTest.quiet(3, 3), x -> x.undo(), -1);
    }

    private static LongCarrier taken(LongCarrier x) {
        for (int left = x.about(3); left > 0; left--) {
            Check.due("undo", x.undo(), left - 1);
        }
        return x;
    }

    private static void said() {
        Edge.sentence("Promise 48: said: -2 for others (0 .. 4; 0 .. 10), or if there are 8");
        for (int wrong : new int[] {-2, 5, Edge.LEAST, Edge.MOST}) {
            refused("said(" + wrong + ", 0)", x -> x.said(wrong, 0), -2);
        }
        for (int wrong : Edge.beyond(0, 10)) {
            refused("said(0, " + wrong + ")", x -> x.said(0, wrong), -2);
        }
        Edge.leaves("said(0, 0), there being 8", CallEdges::eightSaid, x -> x.said(0, 0), -2);
        LongCarrier x = eightSaid();
        Check.due("none any more", x.said(-1, 0), 0);
        Check.due("none", x.about(4), 0);
        Check.due("none of none", x.said(-1, 0), 0);
        for (int kind = 0; kind <= 4; kind++) {
            Check.due("one more", x.said(kind, kind * 5 / 2), kind + 1);
        }
        Check.due("as many", x.about(4), 5);
    }

    private static LongCarrier eightSaid() {
        LongCarrier x = carried();
        for (int n = 1; n <= 8; n++) {
            Check.due("said", x.said(n % 5, n + 2), n);
        }
        return x;
    }

    private static void imageAndBack() {
        Edge.sentence("Promise 56: image: THE IMAGE is as all is now: CLOCK");
        LongCarrier x = carried();
        Check.due("image", x.image(), 4);
        Check.due("it is no STEP", x.about(3), 5);
        Edge.sentence("Promise 57: back: BACK to THE IMAGE (it stays): CLOCK");
        x.day(9);
        Check.due("back", x.back(), 4);
        x.day(3);
        Check.due("it stays", x.back(), 4);
        Check.due("back at once", x.back(), 4);
        LongCarrier y = carried();
        y.image();
        Edge.same("BACK twice", x, y);
        x = Edge.at(9999);
        Check.due("image at 9999", x.image(), 9999);
        taken(x);
        Check.due("back to 9999", x.back(), 9999);
        Check.due("its STEPS", x.about(3), 30);
        Check.due("undo", x.undo(), 29);
        Check.due("CLOCK", x.is(0), 9998);
        x.image();
        x.day(1);
        Check.due("another image", x.back(), 9998);
        Check.due("its STEPS", x.about(3), 29);
    }

    private static void fiveHundredCalls() {
        Edge.sentence("An object is used for at most 512 calls");
        LongCarrier x = new LongCarrier();
        x.block(30, 30);
        x.open(0);
        for (int n = 3; n < 511; n++) {
            Check.due("a call like any", x.day(1) >= 0, true);
        }
        Check.due("the 511th", x.is(0), 508);
        Check.due("the 512th", x.undo(), 29);
    }
}
