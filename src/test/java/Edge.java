import java.util.ArrayList;
import java.util.List;

/** What the tests of edges share: the sentence that is tested, rows as they are due, and that a call left all as it was. */
final class Edge {
    static final int ALL = (1 << 30) - 1;
    static final int LEAST = Integer.MIN_VALUE;
    static final int MOST = Integer.MAX_VALUE;
    private static final int MOST_STEPS = 30;

    interface Make {
        LongCarrier make();
    }

    interface Call {
        long on(LongCarrier x);
    }

    private Edge() {
    }

    /** What follows tests this sentence of the document, the part or promise named ahead of it. */
    static void sentence(String words) {
        Check.at(words);
    }

    static int[] beyond(int least, int most) {
        return new int[] {least - 1, most + 1, LEAST, MOST};
    }

    static long bit(boolean answer) {
        return answer ? 1 : 0;
    }

    // ---- rows

    static void out(LongCarrier x, int side, int i, int... cells) {
        for (int what = 0; what < cells.length; what++) {
            Check.due("out(" + side + ", " + i + ", " + what + ")", x.out(side, i, what), cells[what]);
        }
    }

    static void flight(LongCarrier x, int i, int... cells) {
        for (int what = 0; what < cells.length; what++) {
            Check.due("flight(" + i + ", " + what + ")", x.flight(i, what), cells[what]);
        }
    }

    static void timer(LongCarrier x, int i, int... cells) {
        for (int what = 0; what < cells.length; what++) {
            Check.due("timer(" + i + ", " + what + ")", x.timer(i, what), cells[what]);
        }
    }

    static void note(LongCarrier x, int i, int... cells) {
        for (int what = 0; what < cells.length; what++) {
            Check.due("book(" + i + ", " + what + ")", x.book(i, what), cells[what]);
        }
    }

    /** How many are OUT at side 0, at side 1, IN FLIGHT, and how many TIMERS there are. */
    static void counts(LongCarrier x, int near, int far, int flying, int timers) {
        Check.due("OUT at side 0", x.out(0, -1, 0), near);
        Check.due("OUT at side 1", x.out(1, -1, 0), far);
        Check.due("IN FLIGHT", x.flight(-1, 0), flying);
        Check.due("TIMERS", x.timer(-1, 0), timers);
    }

    static void of(LongCarrier x, int block, int... cells) {
        for (int what = 0; what < cells.length; what++) {
            Check.due("of(" + block + ", " + what + ")", x.of(block, what), cells[what]);
        }
    }

    // ---- the same

    /** All that can be asked of how it stands now. */
    static List<Long> asked(LongCarrier x) {
        List<Long> all = new ArrayList<>();
        for (int what = -1; what <= 9; what++) {
            add(all, x.about(what), x.is(what), x.fault(what), x.ledger(what));
        }
        for (int block = 0; block < 3; block++) {
            askedOfBlock(x, block, all);
        }
        askedOfLines(x, all);
        for (int n = 0; n < 120; n++) {
            all.add(bit(x.seen(n)));
        }
        add(all, x.until(60), x.next(0), x.next(1), x.round(), x.pieces(ALL), x.live(), x.whose(), x.soonest(), x.busiest());
        add(all, bit(x.idle()), bit(x.honest()));
        return all;
    }

    /** All that can be asked of what is to come. */
    private static List<Long> askedOfWhatIsToCome(LongCarrier x) {
        List<Long> all = new ArrayList<>();
        for (int block = 0; block < 3; block++) {
            for (int what = 2; what <= 8; what++) {
                add(all, x.foretold(60, block, what));
            }
            add(all, x.till(block), x.ideal(block));
        }
        return all;
    }

    private static void askedOfBlock(LongCarrier x, int block, List<Long> all) {
        for (int what = 0; what <= 8; what++) {
            add(all, x.of(block, what));
        }
        for (int i = -1; i < 15; i++) {
            add(all, x.claims(block, i, false), x.gaps(block, i, false), x.come(block, i, false));
            add(all, x.claims(block, i, true), x.gaps(block, i, true), x.come(block, i, true));
        }
        for (int kind = 0; kind <= 4; kind++) {
            add(all, x.loses(block, kind), x.waits(block, kind, 0), x.waits(block, kind, 9));
        }
        add(all, x.odds(block, false), x.odds(block, true), x.resent(block), bit(x.whole(block)));
    }

    private static void askedOfLines(LongCarrier x, List<Long> all) {
        for (int i = -1; i < 24; i++) {
            for (int what = 0; what < 7; what++) {
                add(all, x.out(0, i, what), x.out(1, i, what));
            }
        }
        for (int i = -1; i < 40; i++) {
            for (int what = 0; what < 9; what++) {
                add(all, x.flight(i, what), x.timer(i, what), x.book(i, what));
            }
            all.add((long) x.rings(i));
        }
    }

    private static void add(List<Long> all, long... answers) {
        for (long answer : answers) {
            all.add(answer);
        }
    }

    private static void askedAlike(String what, LongCarrier x, LongCarrier y) {
        Check.due(what, asked(x).equals(asked(y)), true);
    }

    /** Both are used up by it: all that can be asked, how it stood ahead of each step, the tape, the image. */
    static void same(String what, LongCarrier x, LongCarrier y) {
        askedAlike("all is as it was: " + what, x, y);
        Check.due("what is to come is as it was: " + what, askedOfWhatIsToCome(x).equals(askedOfWhatIsToCome(y)), true);
        for (int n = 0; n < MOST_STEPS; n++) {
            Check.due("undo as it was: " + what, x.undo(), y.undo());
            askedAlike("the steps are as they were: " + what, x, y);
        }
        Check.due("the tape's TEXT is as it was: " + what, x.text(), y.text());
        askedAlike("the tape is as it was: " + what, x, y);
        Check.due("back as it was: " + what, x.back(), y.back());
        askedAlike("the image is as it was: " + what, x, y);
        for (int n = 0; n < MOST_STEPS; n++) {
            Check.due("undo of the image as it was: " + what, x.undo(), y.undo());
        }
        askedAlike("the image's steps are as they were: " + what, x, y);
    }

    /** The call answers so, and leaves all as it was. */
    static void leaves(String name, Make made, Call call, long want) {
        LongCarrier x = made.make();
        Check.due(name, call.on(x), want);
        same(name, x, made.make());
    }

    // ---- objects to begin with

    static LongCarrier fresh() {
        return new LongCarrier();
    }

    /** Something of everything: an image of before, three BLOCKS, two TEXTS, steps, lines, TIMERS, SAID, a TEXT on the tape. */
    static LongCarrier busy() {
        LongCarrier x = new LongCarrier();
        Check.text(x, "loses if kind = 1 then 10 else 0 end; waits 4 + tried;");
        x.by(0);
        x.size(3);
        x.block(10, 6);
        x.open(0);
        x.day(2);
        x.image();
        x.window(7, 0, 6);
        x.delay(3);
        x.size(2);
        x.tries(4);
        Check.text(x, "day 2; loses 4");
        Check.text(x, "waits 7; loses 3; day 1;");
        x.block(5, 5);
        x.block(8, 0);
        x.open(1);
        x.said(2, 3);
        x.said(4, 2);
        x.day(2);
        Check.tape(x, "loses 5; day 4; block 2 of 3; waits clock;");
        return x;
    }

    /** At this CLOCK; nothing is lost; nothing has happened yet. */
    static LongCarrier at(int clock) {
        LongCarrier x = PromiseTest.ruled("loses 0;");
        for (int left = clock; left > 0; left -= 30) {
            x.day(Math.min(30, left));
        }
        return x;
    }
}
