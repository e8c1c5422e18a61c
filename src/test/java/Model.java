import java.util.ArrayDeque;
import java.util.ArrayList;
import java.util.Deque;
import java.util.Iterator;
import java.util.List;
import java.util.TreeSet;

/** The whole document a second time, plainly and without thrift, to be held against the class. */
final class Model {
    static final class Message {
        int kind;
        int block;
        int serial;
        int from;
        int to;
        int claims;
        int tried;
        int when;
        int side;

        Message(int kind, int block, int serial) {
            this.kind = kind;
            this.block = block;
            this.serial = serial;
        }

        Message copy() {
            Message m = new Message(kind, block, serial);
            m.from = from;
            m.to = to;
            m.claims = claims;
            m.tried = tried;
            m.when = when;
            m.side = side;
            return m;
        }

        boolean startsTimer() {
            return kind == 0 && serial > 0 || kind == 1 || kind == 3;
        }
    }

    static final class Block {
        int near;
        int far;
        TreeSet<Integer> claimed = new TreeSet<>();
        TreeSet<Integer> come = new TreeSet<>();
        int checkpoints;
        int reports;
        int sent;

        Block copy() {
            Block b = new Block();
            b.near = near;
            b.far = far;
            b.claimed = new TreeSet<>(claimed);
            b.come = new TreeSet<>(come);
            b.checkpoints = checkpoints;
            b.reports = reports;
            b.sent = sent;
            return b;
        }
    }

    static final class Told {
        List<int[]> blocks = new ArrayList<>();
        int period = 1;
        int from = 0;
        int to = 1;
        int delay = 2;
        int size = 4;
        int tries = 3;
        List<ModelText> texts = new ArrayList<>();
        int ruling = -1;
        List<int[]> said = new ArrayList<>();

        Told copy() {
            Told t = new Told();
            t.blocks.addAll(blocks);
            t.period = period;
            t.from = from;
            t.to = to;
            t.delay = delay;
            t.size = size;
            t.tries = tries;
            t.texts.addAll(texts);
            t.ruling = ruling;
            t.said.addAll(said);
            return t;
        }
    }

    static final class Sim {
        int clock;
        int sun;
        int x = 491;
        int sent;
        int lost;
        Block[] blocks = {new Block(), new Block(), new Block()};
        List<List<Message>> out = List.of(new ArrayList<>(), new ArrayList<>());
        List<Message> flight = new ArrayList<>();
        List<Message> timers = new ArrayList<>();
        List<int[]> book = new ArrayList<>();

        Sim copy() {
            Sim s = new Sim();
            s.clock = clock;
            s.sun = sun;
            s.x = x;
            s.sent = sent;
            s.lost = lost;
            for (int i = 0; i < 3; i++) {
                s.blocks[i] = blocks[i].copy();
            }
            for (int i = 0; i < 2; i++) {
                for (Message m : out.get(i)) {
                    s.out.get(i).add(m.copy());
                }
            }
            for (Message m : flight) {
                s.flight.add(m.copy());
            }
            for (Message m : timers) {
                s.timers.add(m.copy());
            }
            s.book.addAll(book);
            return s;
        }
    }

    record Image(Told told, Sim sim, List<Sim> steps) {
    }

    Told told = new Told();
    Sim sim = new Sim();
    Deque<Sim> steps = new ArrayDeque<>();
    Image image = new Image(told.copy(), sim.copy(), List.of());
    boolean drawing = true;

    // ---- sets of bytes

    static int bits(Iterable<Integer> bytes) {
        int bits = 0;
        for (int at : bytes) {
            bits |= 1 << at;
        }
        return bits;
    }

    static List<int[]> spans(int bits, int most) {
        List<int[]> spans = new ArrayList<>();
        int[] span = null;
        for (int at = 0; at < 30; at++) {
            if ((bits & 1 << at) == 0) {
                span = null;
            } else if (span == null || span[1] - span[0] == most) {
                span = new int[] {at, at + 1};
                spans.add(span);
            } else {
                span[1]++;
            }
        }
        return spans;
    }

    private TreeSet<Integer> gaps(int block) {
        TreeSet<Integer> gaps = new TreeSet<>();
        for (int at = 0; at < told.blocks.get(block)[1]; at++) {
            if (!sim.blocks[block].claimed.contains(at)) {
                gaps.add(at);
            }
        }
        return gaps;
    }

    // ---- laws

    private ModelText.World world(int kind, int block, int last) {
        return new ModelText.World() {
            @Override
            public long named(String name) {
                return switch (name) {
                    case "clock" -> sim.clock;
                    case "sun" -> sim.sun;
                    case "kind" -> kind;
                    case "number" -> block;
                    case "delay" -> told.delay;
                    default -> last;
                };
            }

            @Override
            public long bytes(String which, long number) {
                if (number < 0 || number >= told.blocks.size()) {
                    return 0;
                }
                Block b = sim.blocks[(int) number];
                return which.equals("come") ? b.come.size() : b.claimed.size();
            }
        };
    }

    int losesBy(ModelText text, int kind, int block, int bytes) {
        if (text == null || text.loses == null) {
            return 2;
        }
        return (int) Math.min(10, Math.max(0, text.loses.ask(world(kind, block, bytes))));
    }

    ModelText ruling() {
        return told.ruling < 0 ? null : told.texts.get(told.ruling);
    }

    int loses(int kind, int block, int bytes) {
        return losesBy(ruling(), kind, block, bytes);
    }

    int waits(int kind, int block, int tried) {
        ModelText text = ruling();
        if (text == null || text.waits == null) {
            return told.delay * 2 + 2;
        }
        return (int) Math.min(60, Math.max(1, text.waits.ask(world(kind, block, tried))));
    }

    // ---- what happens

    boolean seenAt(int clock) {
        int at = clock % told.period;
        return told.from <= at && at < told.to;
    }

    private void write(int what, int block, int kind) {
        sim.book.add(new int[] {sim.clock, what, block, kind});
        if (sim.book.size() > 25) {
            sim.book.remove(0);
        }
    }

    private boolean put(int side, Message m) {
        return sim.out.get(side).size() < 24 && sim.out.get(side).add(m);
    }

    private int putPieces(int block, int bits, boolean red) {
        int put = 0;
        List<int[]> pieces = spans(bits, told.size);
        for (int i = 0; i < pieces.size(); i++) {
            boolean last = red && i == pieces.size() - 1;
            Message m = new Message(0, block, last ? ++sim.blocks[block].checkpoints : 0);
            m.from = pieces.get(i)[0];
            m.to = pieces.get(i)[1];
            put += put(0, m) ? 1 : 0;
        }
        return put;
    }

    boolean isNew(int block) {
        return block >= 0 && block < told.blocks.size() && sim.blocks[block].near == 0;
    }

    int opened(int block) {
        int length = told.blocks.get(block)[0];
        int red = told.blocks.get(block)[1];
        int redBits = (int) ((1L << red) - 1);
        int allBits = (int) ((1L << length) - 1);
        sim.blocks[block].near = 1;
        write(0, block, 0);
        int put = putPieces(block, redBits, true) + putPieces(block, allBits ^ redBits, false);
        if (red == 0) {
            sim.blocks[block].near = 2;
            write(1, block, 0);
        }
        return put;
    }

    boolean canCancel(int block, int side) {
        return sim.blocks[block].near == 1 && (side == 0 || sim.blocks[block].far == 0);
    }

    private void wipe(int side, int block) {
        sim.out.get(side).removeIf(m -> m.block == block);
        sim.timers.removeIf(m -> m.side == side && m.block == block);
    }

    private void wipe(int side, int block, int kind, int serial) {
        sim.out.get(side).removeIf(m -> m.block == block && m.kind == kind && m.serial == serial);
        sim.timers.removeIf(m -> m.side == side && m.block == block && m.kind == kind && m.serial == serial);
    }

    private void becomeCancelled(int block, int side) {
        if (side == 0) {
            sim.blocks[block].near = 3;
        } else {
            sim.blocks[block].far = 3;
        }
        wipe(side, block);
    }

    void cancelled(int block, int side) {
        becomeCancelled(block, side);
        write(2 + side, block, 0);
        put(side, new Message(3, block, 0));
    }

    void tick() {
        boolean seen = seenAt(sim.clock);
        List<Message> coming = new ArrayList<>();
        for (Iterator<Message> all = sim.flight.iterator(); all.hasNext();) {
            Message m = all.next();
            if (m.when == sim.clock) {
                all.remove();
                coming.add(m);
            }
        }
        coming.forEach(this::got);
        if (seen) {
            send(0);
            send(1);
            sim.sun++;
            for (Message timer : new ArrayList<>(sim.timers)) {
                if (timer.when <= sim.sun && sim.timers.contains(timer)) {
                    ring(timer);
                }
            }
        }
        sim.clock++;
    }

    private void send(int side) {
        if (sim.out.get(side).isEmpty()) {
            return;
        }
        Message m = sim.out.get(side).remove(0);
        int bytes = m.kind == 0 ? m.to - m.from : 0;
        sim.sent++;
        sim.blocks[m.block].sent += bytes;
        boolean lost = false;
        if (drawing) {
            lost = sim.x % 10 < loses(m.kind, m.block, bytes);
            sim.x = (sim.x * 757 + 617) % 31091;
        }
        if (m.startsTimer() && sim.timers.size() < 16) {
            Message timer = m.copy();
            timer.side = side;
            timer.when = sim.sun + waits(m.kind, m.block, m.tried);
            sim.timers.add(timer);
        }
        if (lost) {
            sim.lost++;
            write(4, m.block, m.kind);
            return;
        }
        m.when = sim.clock + told.delay;
        m.side = 1 - side;
        sim.flight.add(m);
    }

    private void ring(Message timer) {
        write(5, timer.block, timer.kind);
        sim.timers.remove(timer);
        if (timer.tried >= told.tries) {
            if (timer.kind != 3 && canCancel(timer.block, timer.side)) {
                cancelled(timer.block, timer.side);
            }
            return;
        }
        Message again = timer.copy();
        again.tried++;
        put(timer.side, again);
    }

    private void got(Message m) {
        Block b = sim.blocks[m.block];
        switch (m.kind) {
            case 0 -> gotData(m, b);
            case 1 -> gotReport(m, b);
            case 2 -> wipe(1, m.block, 1, m.serial);
            case 3 -> {
                if (m.side == 1 || b.near == 1) {
                    becomeCancelled(m.block, m.side);
                }
                put(m.side, new Message(4, m.block, 0));
            }
            default -> wipe(m.side, m.block, 3, 0);
        }
    }

    private void gotData(Message m, Block b) {
        if (b.far == 3) {
            return;
        }
        for (int at = m.from; at < m.to; at++) {
            b.come.add(at);
        }
        if (m.serial > 0) {
            Message report = new Message(1, m.block, ++b.reports);
            report.to = m.serial;
            report.claims = bits(b.come.headSet(told.blocks.get(m.block)[1]));
            put(1, report);
        }
    }

    private void gotReport(Message m, Block b) {
        put(0, new Message(2, m.block, m.serial));
        wipe(0, m.block, 0, m.to);
        if (b.near != 1) {
            return;
        }
        for (int at = 0; at < 30; at++) {
            if ((m.claims >> at & 1) == 1) {
                b.claimed.add(at);
            }
        }
        TreeSet<Integer> gaps = gaps(m.block);
        if (gaps.isEmpty()) {
            b.near = 2;
            write(1, m.block, 0);
            sim.timers.removeIf(t -> t.side == 0 && t.kind == 0 && t.block == m.block);
            sim.out.get(0).removeIf(o -> o.kind == 0 && o.serial > 0 && o.block == m.block);
        } else if (m.to == b.checkpoints) {
            putPieces(m.block, bits(gaps), true);
        }
    }

    // ---- steps

    void step() {
        steps.addLast(sim.copy());
        if (steps.size() > 30) {
            steps.removeFirst();
        }
    }

    void stepTicks(int n) {
        for (int i = 0; i < n; i++) {
            step();
            tick();
        }
    }

    // ---- the face

    int block(int length, int red) {
        if (length < 1 || length > 30 || red < 0 || red > length || told.blocks.size() == 3) {
            return -1;
        }
        told.blocks.add(new int[] {length, red});
        return told.blocks.size() - 1;
    }

    int open(int block) {
        if (!isNew(block)) {
            return -1;
        }
        step();
        return opened(block);
    }

    boolean cancel(int block, int side) {
        if (block < 0 || block > 2 || side < 0 || side > 1 || !canCancel(block, side)) {
            return false;
        }
        step();
        cancelled(block, side);
        return true;
    }

    int day(int n) {
        if (n < 1 || n > 30 || sim.clock + n > 9999) {
            return -1;
        }
        int before = sim.sent;
        stepTicks(n);
        return sim.sent - before;
    }

    int played(int text) {
        if (text < 0 || text >= told.texts.size()) {
            return -2;
        }
        List<ModelText.Clause> clauses = told.texts.get(text).clauses;
        for (int i = 0; i < clauses.size(); i++) {
            ModelText.Clause c = clauses.get(i);
            boolean can = switch (c.word()) {
                case "block" -> block(c.second(), c.first()) >= 0;
                case "open" -> open(c.first()) >= 0;
                case "cancel" -> cancel(c.first(), c.second());
                case "day" -> playDay(c.first());
                default -> true;
            };
            if (!can) {
                return i;
            }
        }
        return -1;
    }

    private boolean playDay(int n) {
        int can = Math.min(n, 9999 - sim.clock);
        stepTicks(can);
        return can == n;
    }

    int years(int seed, int n) {
        if (seed < 0 || seed > 9999 || n < 1 || n > 40) {
            return -1;
        }
        step();
        sim.x = seed * 2 + 491;
        for (int i = 0; i < n; i++) {
            int x = sim.x;
            sim.x = (x * 757 + 617) % 31091;
            int block = x / 8 % 3;
            int side = x / 16 % 2;
            if (x % 8 == 0) {
                if (isNew(block)) {
                    opened(block);
                }
            } else if (x % 8 == 1) {
                if (x % 3 == 0 && canCancel(block, side)) {
                    cancelled(block, side);
                }
            } else if (sim.clock < 9999) {
                tick();
            }
        }
        return sim.clock;
    }

    int undo() {
        if (steps.isEmpty()) {
            return -1;
        }
        sim = steps.removeLast();
        return steps.size();
    }

    int of(int block, int what) {
        if (block < 0 || block >= told.blocks.size()) {
            return -2;
        }
        Block b = sim.blocks[block];
        return switch (what) {
            case 0 -> told.blocks.get(block)[0];
            case 1 -> told.blocks.get(block)[1];
            case 2 -> b.near;
            case 3 -> b.far;
            case 4 -> b.claimed.size();
            case 5 -> b.come.size();
            case 6 -> b.checkpoints;
            case 7 -> b.reports;
            case 8 -> b.sent;
            default -> -2;
        };
    }

    /** which: 0 claims, 1 gaps, 2 what has come. */
    int spanOf(int which, int block, int i, boolean to) {
        if (block < 0 || block >= told.blocks.size()) {
            return -2;
        }
        Block b = sim.blocks[block];
        int bits = which == 0 ? bits(b.claimed) : which == 1 ? bits(gaps(block)) : bits(b.come);
        List<int[]> spans = spans(bits, 30);
        if (i == -1) {
            return spans.size();
        }
        return i < 0 || i >= spans.size() ? -2 : spans.get(i)[to ? 1 : 0];
    }

    private static int cell(List<Message> line, int i, int what, boolean far) {
        if (i == -1) {
            return line.size();
        }
        if (i < 0 || i >= line.size()) {
            return -2;
        }
        Message m = line.get(i);
        return switch (what) {
            case 0 -> m.kind;
            case 1 -> m.block;
            case 2 -> m.serial;
            case 3 -> m.from;
            case 4 -> m.to;
            case 5 -> m.claims;
            case 6 -> m.tried;
            case 7 -> far ? m.when : -2;
            case 8 -> far ? m.side : -2;
            default -> -2;
        };
    }

    int out(int side, int i, int what) {
        return side < 0 || side > 1 ? -2 : cell(sim.out.get(side), i, what, false);
    }

    int flight(int i, int what) {
        return cell(sim.flight, i, what, true);
    }

    int timer(int i, int what) {
        if (i == -1) {
            return sim.timers.size();
        }
        if (i < 0 || i >= sim.timers.size()) {
            return -2;
        }
        Message m = sim.timers.get(i);
        return switch (what) {
            case 0 -> m.side;
            case 1 -> m.kind;
            case 2 -> m.block;
            case 3 -> m.serial;
            case 4 -> m.when;
            case 5 -> m.tried;
            default -> -2;
        };
    }

    int book(int i, int what) {
        if (i == -1) {
            return sim.book.size();
        }
        if (i < 0 || i >= sim.book.size() || what < 0 || what > 3) {
            return -2;
        }
        return sim.book.get(i)[what];
    }

    int is(int what) {
        return switch (what) {
            case 0 -> sim.clock;
            case 1 -> sim.x;
            case 2 -> sim.sun;
            case 3 -> sim.sent;
            case 4 -> sim.lost;
            default -> -2;
        };
    }

    int until(int n) {
        if (n < 0 || n > 60) {
            return -1;
        }
        int ticks = 0;
        int risen = 0;
        while (risen < n) {
            risen += seenAt(sim.clock + ticks) ? 1 : 0;
            ticks++;
        }
        return ticks;
    }

    private int waitSeen(int clock) {
        int at = clock;
        while (!seenAt(at)) {
            at++;
        }
        return at;
    }

    int next(int side) {
        return side < 0 || side > 1 || sim.out.get(side).isEmpty() ? -1 : waitSeen(sim.clock) - sim.clock;
    }

    int round() {
        return waitSeen(waitSeen(sim.clock) + told.delay) + told.delay - sim.clock;
    }

    int rings(int i) {
        if (i < 0 || i >= sim.timers.size()) {
            return -1;
        }
        int sun = sim.sun;
        for (int ticks = 1;; ticks++) {
            sun += seenAt(sim.clock + ticks - 1) ? 1 : 0;
            if (seenAt(sim.clock + ticks - 1) && sun >= sim.timers.get(i).when) {
                return ticks;
            }
        }
    }

    int foretold(int n, int block, int what) {
        if (n < 1 || n > 60) {
            return -2;
        }
        Sim real = sim;
        sim = real.copy();
        for (int i = 0; i < n && sim.clock < 9999; i++) {
            tick();
        }
        int answer = of(block, what);
        sim = real;
        return answer;
    }

    private int ticksTillEnd(int block) {
        for (int ticks = 0; ticks <= 400; ticks++) {
            if (sim.blocks[block].near >= 2) {
                return ticks;
            }
            tick();
        }
        return -1;
    }

    int till(int block) {
        if (block < 0 || block > 2 || sim.blocks[block].near != 1) {
            return -1;
        }
        Sim real = sim;
        sim = real.copy();
        int answer = ticksTillEnd(block);
        sim = real;
        return answer;
    }

    int ideal(int block) {
        if (!isNew(block)) {
            return -1;
        }
        Sim real = sim;
        sim = real.copy();
        drawing = false;
        opened(block);
        int answer = ticksTillEnd(block);
        drawing = true;
        sim = real;
        return answer;
    }

    boolean whole(int block) {
        return block >= 0 && block < told.blocks.size()
            && sim.blocks[block].come.headSet(told.blocks.get(block)[1]).size() == told.blocks.get(block)[1];
    }

    long odds(int block, boolean low) {
        if (!isNew(block)) {
            return -1;
        }
        List<int[]> pieces = spans((int) ((1L << told.blocks.get(block)[1]) - 1), told.size);
        if (pieces.size() > 18) {
            return -1;
        }
        java.math.BigInteger upper = java.math.BigInteger.ONE;
        for (int[] piece : pieces) {
            upper = upper.multiply(java.math.BigInteger.valueOf(10 - loses(0, block, piece[1] - piece[0])));
        }
        java.math.BigInteger lower = java.math.BigInteger.TEN.pow(pieces.size());
        java.math.BigInteger common = upper.gcd(lower);
        return (low ? lower : upper).divide(common).longValueExact();
    }

    int said(int kind, int loses) {
        if (kind == -1) {
            told.said.clear();
            return 0;
        }
        if (kind < 0 || kind > 4 || loses < 0 || loses > 10 || told.said.size() == 8) {
            return -2;
        }
        told.said.add(new int[] {kind, loses});
        return told.said.size();
    }

    int whose() {
        int bits = 0;
        for (int i = 0; i < told.texts.size(); i++) {
            ModelText text = told.texts.get(i);
            boolean all = told.said.stream().allMatch(s -> losesBy(text, s[0], 0, 0) == s[1]);
            bits |= all ? 1 << i : 0;
        }
        return bits;
    }

    int busiest() {
        int best = -1;
        int most = 0;
        for (int block = 0; block < 3; block++) {
            int count = 0;
            for (List<Message> line : List.of(sim.out.get(0), sim.out.get(1), sim.flight)) {
                for (Message m : line) {
                    count += m.block == block ? 1 : 0;
                }
            }
            if (count > most) {
                most = count;
                best = block;
            }
        }
        return best;
    }

    int image() {
        List<Sim> kept = new ArrayList<>();
        steps.forEach(s -> kept.add(s.copy()));
        image = new Image(told.copy(), sim.copy(), kept);
        return sim.clock;
    }

    int back() {
        told = image.told.copy();
        sim = image.sim.copy();
        steps.clear();
        image.steps.forEach(s -> steps.addLast(s.copy()));
        return sim.clock;
    }
}
