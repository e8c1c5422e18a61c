import java.util.Random;

/** Runs of drawn calls, the class beside the model; behind each call all that can be asked is held together. */
public final class ModelTest {
    private static final int RUNS = 600;
    private static final int CALLS = 120;
    private final Random draw;
    private final TextMaker maker;
    private final LongCarrier x = new LongCarrier();
    private final Model m = new Model();
    private int fault = -1;
    private int place = -1;

    private ModelTest(int run) {
        draw = new Random(run);
        maker = new TextMaker(draw);
    }

    public static void main(String[] args) {
        for (int run = 0; run < RUNS; run++) {
            new ModelTest(run).run(run);
        }
        Check.close();
    }

    private void run(int run) {
        int style = run % 6;
        if (style > 0) {
            prepare(style);
        }
        if (style == 4) {
            goToTheEnd();
        }
        for (int call = 0; call < CALLS; call++) {
            Check.at("run " + run + ", call " + call);
            change(style);
            compareAll();
            if (Check.wrong() > 0) {
                return;
            }
        }
    }

    /** Laws under which lines and timers fill up, as few of the drawn ones make them. */
    private static final String[] CROWDS = {
        "loses if kind = 1 then 10 else 0 end; waits if kind = 0 then 1 else 60 end;",
        "loses if kind = 1 then 10 else 0 end; waits 1;",
        "loses 0; waits 1;",
        "loses if kind = 2 then 10 else 0 end; waits if kind = 0 then 2 else 3 end;",
        "loses 10; waits 1 + tried;",
        "loses if bytes > 1 then 9 else if kind = 0 then 7 else 0 end end; waits 6;",
    };

    private void crowd(int which) {
        tellText(CROWDS[which]);
        x.by(m.told.texts.size() - 1);
        m.told.ruling = m.told.texts.size() - 1;
        tellTries(5 + draw.nextInt(5));
        boolean hides = which < 2 && draw.nextInt(3) > 0;
        if (hides) {
            // what was sent while they saw each other comes, and piles up, while they don't
            tellSize(9);
            tellTries(9);
            tellDelay(20);
            tellWindow(60, 0, 30);
        }
        if (which == CROWDS.length - 1) {
            tellSize(1);
            tellTries(9);
            tellDelay(1);
        }
        for (int block = 0; block < 3; block++) {
            Check.due("open", x.open(block), m.open(block));
            if (!hides) {
                Check.due("day", x.day(10), m.day(10));
            }
        }
        for (int n = 0; n < 3; n++) {
            Check.due("day", x.day(25), m.day(25));
            compareAll();
        }
    }

    private void prepare(int style) {
        for (int i = 0; i < 3; i++) {
            int length = style == 3 ? 20 + draw.nextInt(11) : 1 + draw.nextInt(30);
            int red = draw.nextInt(length + 1);
            Check.due("block", x.block(length, red), m.block(length, red));
        }
        if (style >= 2) {
            tellText(maker.law());
            x.by(0);
            m.told.ruling = m.told.texts.isEmpty() ? -1 : 0;
        }
        if (style == 5) {
            crowd(draw.nextInt(CROWDS.length));
        }
        if (style == 3) {
            tellSize(1);
            tellTries(draw.nextInt(3));
        }
    }

    /** The last clocks behave unlike all others, so some runs begin close to them. */
    private void goToTheEnd() {
        for (int i = 0; i < 332; i++) {
            Check.due("day(30)", x.day(30), m.day(30));
        }
    }

    private void tellText(String text) {
        Check.tape(x, text);
        if (m.told.texts.size() == 4) {
            Check.due("text, a fifth", x.text(), -1);
            Check.due("tape of a fifth", x.about(5), text.length());
            return;
        }
        int want = -1;
        try {
            m.told.texts.add(new ModelText(text));
            want = m.told.texts.size() - 1;
            fault = 0;
            place = -1;
        } catch (ModelText.Fault found) {
            fault = found.sort;
            place = found.place;
        }
        Check.due("text of '" + text + "'", x.text(), want);
        Check.due("fault of '" + text + "'", x.fault(0), fault);
        Check.due("its place in '" + text + "'", x.fault(1), place);
        Check.due("tape behind it", x.about(5), 0);
    }

    private void tellSize(int n) {
        x.size(n);
        m.told.size = n;
    }

    private void tellDelay(int n) {
        x.delay(n);
        m.told.delay = n;
    }

    private void tellTries(int n) {
        x.tries(n);
        m.told.tries = n;
    }

    private void change(int style) {
        switch (draw.nextInt(22)) {
            case 0 -> {
                int length = draw.nextInt(33);
                int red = draw.nextInt(length + 2) - 1;
                Check.due("block", x.block(length, red), m.block(length, red));
            }
            case 1 -> drawWindow();
            case 2 -> tellDelay(1 + draw.nextInt(20));
            case 3 -> tellSize(1 + draw.nextInt(9));
            case 4 -> tellTries(draw.nextInt(10));
            case 5 -> tellText(draw.nextInt(3) == 0 ? maker.wrongText() : draw.nextInt(2) == 0 ? maker.text() : maker.law());
            case 6 -> {
                int text = draw.nextInt(6) - 1;
                boolean can = text < m.told.texts.size();
                m.told.ruling = can ? text : m.told.ruling;
                Check.due("by", x.by(text), can);
            }
            case 7, 8, 9 -> {
                int block = draw.nextInt(4);
                Check.due("open", x.open(block), m.open(block));
            }
            case 10 -> {
                int block = draw.nextInt(4);
                int side = draw.nextInt(3);
                Check.due("cancel", x.cancel(block, side), m.cancel(block, side));
            }
            case 11, 12, 13, 14, 15 -> {
                int n = draw.nextInt(style == 1 ? 32 : 6);
                Check.due("day", x.day(n), m.day(n));
            }
            case 16 -> {
                int text = draw.nextInt(5) - 1;
                Check.due("played", x.played(text), m.played(text));
            }
            case 17 -> {
                int seed = draw.nextInt(10001);
                int n = draw.nextInt(42);
                Check.due("years", x.years(seed, n), m.years(seed, n));
            }
            case 18, 19 -> {
                for (int n = draw.nextInt(draw.nextInt(8) == 0 ? 40 : 4); n > 0; n--) {
                    Check.due("undo", x.undo(), m.undo());
                }
            }
            case 20 -> {
                int kind = draw.nextInt(20) == 0 ? -1 : draw.nextInt(5);
                int loses = draw.nextInt(2) == 0 ? m.loses(Math.max(0, kind), 0, 0) : draw.nextInt(12);
                Check.due("said", x.said(kind, loses), m.said(kind, loses));
            }
            default -> {
                if (draw.nextInt(2) == 0) {
                    Check.due("image", x.image(), m.image());
                } else {
                    Check.due("back", x.back(), m.back());
                }
            }
        }
    }

    private void drawWindow() {
        int period = 1 + draw.nextInt(draw.nextInt(3) == 0 ? 60 : 6);
        int from = draw.nextInt(period);
        tellWindow(period, from, from + 1 + draw.nextInt(period - from));
    }

    private void tellWindow(int period, int from, int to) {
        Check.due("window", x.window(period, from, to), true);
        m.told.period = period;
        m.told.from = from;
        m.told.to = to;
    }

    private void compareAll() {
        compareTold();
        compareLines();
        for (int block = -1; block <= 3; block++) {
            compareBlock(block);
        }
        compareRest();
        compareBits();
        if (draw.nextInt(4) == 0) {
            compareLaws();
            compareFuture();
        }
    }

    private void compareTold() {
        int[] about = {m.told.blocks.size(), m.told.texts.size(), m.told.ruling, m.steps.size(), m.told.said.size(),
            x.about(5), m.told.delay, m.told.size, m.told.tries, -2};
        for (int what = 0; what < about.length; what++) {
            Check.due("about(" + what + ")", x.about(what), about[what]);
        }
        Check.due("fault(0)", x.fault(0), fault);
        Check.due("fault(1)", x.fault(1), place);
    }

    private void compareLines() {
        for (int side = 0; side < 2; side++) {
            for (int i = -1; i <= m.sim.out.get(side).size(); i++) {
                for (int what = -1; what <= 7; what++) {
                    Check.due("out(" + side + ", " + i + ", " + what + ")", x.out(side, i, what), m.out(side, i, what));
                }
            }
            Check.due("next(" + side + ")", x.next(side), m.next(side));
        }
        for (int i = -1; i <= m.sim.flight.size(); i++) {
            for (int what = -1; what <= 9; what++) {
                Check.due("flight(" + i + ", " + what + ")", x.flight(i, what), m.flight(i, what));
            }
        }
        for (int i = -1; i <= m.sim.timers.size(); i++) {
            for (int what = -1; what <= 6; what++) {
                Check.due("timer(" + i + ", " + what + ")", x.timer(i, what), m.timer(i, what));
            }
            Check.due("rings(" + i + ")", x.rings(i), m.rings(i));
        }
        for (int i = -1; i <= m.sim.book.size(); i++) {
            for (int what = -1; what <= 4; what++) {
                Check.due("book(" + i + ", " + what + ")", x.book(i, what), m.book(i, what));
            }
        }
    }

    private void compareBlock(int block) {
        for (int what = -1; what <= 9; what++) {
            Check.due("of(" + block + ", " + what + ")", x.of(block, what), m.of(block, what));
        }
        for (int i = -2; i <= 4; i++) {
            boolean to = draw.nextInt(2) == 0;
            Check.due("claims(" + block + ", " + i + ")", x.claims(block, i, to), m.spanOf(0, block, i, to));
            Check.due("gaps(" + block + ", " + i + ")", x.gaps(block, i, to), m.spanOf(1, block, i, to));
            Check.due("come(" + block + ", " + i + ")", x.come(block, i, to), m.spanOf(2, block, i, to));
        }
        Check.due("whole(" + block + ")", x.whole(block), m.whole(block));
        int sent = m.of(block, 8) - m.of(block, 0);
        int resent = block < 0 || block >= m.told.blocks.size() ? -1 : Math.max(0, sent);
        Check.due("resent(" + block + ")", x.resent(block), resent);
    }

    private void compareRest() {
        for (int what = -1; what <= 5; what++) {
            Check.due("is(" + what + ")", x.is(what), m.is(what));
        }
        int n = draw.nextInt(1010) - 5;
        Check.due("seen(" + n + ")", x.seen(n), n >= 0 && n <= 999 && m.seenAt(m.sim.clock + n));
        int more = draw.nextInt(64) - 2;
        Check.due("until(" + more + ")", x.until(more), m.until(more));
        Check.due("round", x.round(), m.round());
        boolean idle = m.out(0, -1, 0) + m.out(1, -1, 0) + m.sim.flight.size() + m.sim.timers.size() == 0;
        Check.due("idle", x.idle(), idle);
        int live = 0;
        boolean honest = true;
        for (int block = 0; block < 3; block++) {
            live |= m.sim.blocks[block].near == 1 && m.sim.blocks[block].far == 0 ? 1 << block : 0;
            honest &= m.sim.blocks[block].come.containsAll(m.sim.blocks[block].claimed);
        }
        Check.due("live", x.live(), live);
        Check.due("honest", x.honest(), honest);
        Check.due("soonest", x.soonest(), m.sim.flight.stream().mapToInt(f -> f.when).min().orElse(-1));
        Check.due("busiest", x.busiest(), m.busiest());
        for (int what = -1; what <= 6; what++) {
            int kind = what;
            long lines = m.sim.book.stream().filter(line -> line[1] == kind).count();
            Check.due("ledger(" + what + ")", x.ledger(what), what < 0 || what > 5 ? -2 : lines);
        }
    }

    private void compareBits() {
        int bits = draw.nextInt(1 << 30) & (draw.nextInt(2) == 0 ? draw.nextInt() | draw.nextInt() : -1);
        int other = draw.nextInt(1 << 30);
        java.util.List<int[]> spans = Model.spans(bits, 30);
        java.util.List<int[]> pieces = Model.spans(bits, m.told.size);
        Check.due("spans", x.spans(bits), spans.size());
        Check.due("pieces", x.pieces(bits), pieces.size());
        for (int i = -1; i <= pieces.size(); i++) {
            boolean to = draw.nextInt(2) == 0;
            int edge = i < 0 || i >= pieces.size() ? -1 : pieces.get(i)[to ? 1 : 0];
            Check.due("piece(" + bits + ", " + i + ")", x.piece(bits, i, to), edge);
            edge = i < 0 || i >= spans.size() ? -1 : spans.get(i)[to ? 1 : 0];
            Check.due("span(" + bits + ", " + i + ")", x.span(bits, i, to), edge);
        }
        Check.due("longest", x.longest(bits), spans.stream().mapToInt(s -> s[1] - s[0]).max().orElse(0));
        Check.due("join", x.join(bits, other), bits | other);
        Check.due("less", x.less(bits, other), bits - (bits & other));
        int from = draw.nextInt(31);
        int to = from + draw.nextInt(31 - from);
        int within = 0;
        for (int at = from; at < to; at++) {
            within |= bits & 1 << at;
        }
        Check.due("within", x.within(bits, from, to), within);
    }

    private void compareLaws() {
        for (int block = -1; block <= 3; block++) {
            boolean told = block >= 0 && block < m.told.blocks.size();
            for (int kind = -1; kind <= 5; kind++) {
                boolean good = told && kind >= 0 && kind <= 4;
                Check.due("loses(" + block + ", " + kind + ")", x.loses(block, kind), good ? m.loses(kind, block, 0) : -1);
                for (int tried = -1; tried <= 10; tried++) {
                    int want = good && tried >= 0 && tried <= 9 ? m.waits(kind, block, tried) : -1;
                    Check.due("waits(" + block + ", " + kind + ", " + tried + ")", x.waits(block, kind, tried), want);
                }
            }
            Check.due("odds(" + block + ", false)", x.odds(block, false), m.odds(block, false));
            Check.due("odds(" + block + ", true)", x.odds(block, true), m.odds(block, true));
        }
        Check.due("whose", x.whose(), m.whose());
    }

    private void compareFuture() {
        for (int block = -1; block <= 3; block++) {
            int n = draw.nextInt(63);
            int what = draw.nextInt(11) - 1;
            Check.due("foretold(" + n + ", " + block + ", " + what + ")", x.foretold(n, block, what), m.foretold(n, block, what));
            Check.due("till(" + block + ")", x.till(block), m.till(block));
            Check.due("ideal(" + block + ")", x.ideal(block), m.ideal(block));
        }
    }
}
