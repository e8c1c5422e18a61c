/** The edges of parts III, IV and V: what is to come, bits, odds, whose law, years; what asks changes nothing. */
final class AskedEdges {
    private AskedEdges() {
    }

    static void run() {
        nothingChanges();
        foretold();
        foretoldAtTheEnd();
        tillItEnds();
        tillByFourHundred();
        idealByFourHundred();
        ideal();
        idealLosesNothing();
        spans();
        within();
        joinedAndLess();
        until();
        next();
        roundTrip();
        rings();
        odds();
        resent();
        idle();
        live();
        wholeAndHonest();
        soonest();
        busiest();
        whoseLaw();
        byTheBook();
        years();
        yearsOpen();
        yearsCancel();
        yearsCancelBySides();
        yearsTick();
        image();
        imageOfSaid();
        imageOfSteps();
    }

    private static void nothingChanges() {
        Edge.sentence("III. All that follows changes nothing but what is told");
        Edge.Call[] calls = {x -> x.foretold(60, 0, 2), x -> x.till(0), x -> x.ideal(0), x -> x.ideal(1), x -> x.until(60),
            x -> x.next(0), x -> x.round(), x -> x.rings(0), x -> x.odds(0, true), x -> x.whose(), x -> x.loses(0, 0),
            x -> x.waits(0, 0, 9), x -> x.spans(7), x -> x.longest(7), x -> x.book(0, 0), x -> x.timer(0, 0), x -> x.flight(0, 0),
            x -> x.claims(0, 0, true), x -> x.seen(999) ? 1 : 0, x -> x.busiest(), x -> x.ledger(5)};
        for (int i = 0; i < calls.length; i++) {
            LongCarrier x = Edge.busy();
            calls[i].on(x);
            Edge.same("what was asked, " + i, x, Edge.busy());
        }
    }

    private static LongCarrier carriedSix() {
        LongCarrier x = PromiseTest.quiet(10, 6);
        x.open(0);
        return x;
    }

    private static void foretold() {
        Edge.sentence("III: FORETOLD behind n TICKS, nothing else being done (1 .. 60)");
        for (int n = 1; n <= 60; n++) {
            LongCarrier x = carriedSix();
            LongCarrier y = carriedSix();
            y.day(Math.min(30, n));
            if (n > 30) {
                y.day(n - 30);
            }
            for (int what = 0; what <= 8; what++) {
                Check.due("foretold(" + n + ", 0, " + what + ")", x.foretold(n, 0, what), y.of(0, what));
            }
        }
        LongCarrier x = carriedSix();
        Check.due("foretold(0, 0, 0)", x.foretold(0, 0, 0), -2);
        Check.due("foretold(61, 0, 0)", x.foretold(61, 0, 0), -2);
        Check.due("foretold(1, 0, 9)", x.foretold(1, 0, 9), -2);
        Check.due("foretold(1, 0, -1)", x.foretold(1, 0, -1), -2);
        Check.due("foretold(1, 1, 0)", x.foretold(1, 1, 0), -2);
        Check.due("foretold(1, -1, 0)", x.foretold(1, -1, 0), -2);
        // lost as it will be: 491 loses by 2
        x = new LongCarrier();
        x.block(4, 4);
        x.block(4, 0);
        x.open(0);
        Check.due("lost", x.foretold(3, 0, 5), 0);
        Check.due("of one that stays NEW", x.foretold(60, 1, 2), 0);
        Check.due("sent again behind 6", x.foretold(7, 0, 8), 8);
        Check.due("not behind 5", x.foretold(6, 0, 8), 4);
    }

    private static void foretoldAtTheEnd() {
        Edge.sentence("III: FORETOLD (those that can pass)");
        for (int left = 0; left <= 6; left++) {
            LongCarrier x = Edge.at(9999 - left);
            x.block(10, 6);
            x.open(0);
            int[] sent = {0, 4, 6, 10, 10, 10, 10};
            int[] come = {0, 0, 0, 4, 6, 10, 10};
            Check.due("sent, of " + left, x.foretold(60, 0, 8), sent[left]);
            Check.due("come, of " + left, x.foretold(60, 0, 5), come[left]);
            Check.due("DONE, of " + left, x.foretold(60, 0, 2), left == 6 ? 2 : 1);
            Check.due("one, of " + left, x.foretold(1, 0, 8), Math.min(4, sent[left]));
        }
    }

    private static void tillItEnds() {
        Edge.sentence("III: TILL IT ENDS: behind how many TICKS (beyond 9999, too) an OPEN BLOCK is DONE or CANCELLED at side 0");
        LongCarrier x = carriedSix();
        for (int left = 6; left > 0; left--) {
            Check.due("till DONE", x.till(0), left);
            x.day(1);
        }
        Check.due("DONE", x.of(0, 2), 2);
        Check.due("none of a DONE one", x.till(0), -1);
        for (int clock : new int[] {9993, 9994, 9998, 9999}) {
            x = Edge.at(clock);
            x.block(10, 6);
            Check.due("of a NEW one", x.till(0), -1);
            x.open(0);
            Check.due("at " + clock, x.till(0), 6);
        }
        x = carriedSix();
        x.cancel(0, 1);
        Check.due("till CANCELLED by what is GOT", x.till(0), 3);
        x.cancel(0, 0);
        Check.due("none of a CANCELLED one", x.till(0), -1);
        x = PromiseTest.ruled("loses 10; waits 2;");
        x.tries(1);
        x.block(1, 1);
        x.open(0);
        Check.due("till CANCELLED by its TIMER", x.till(0), 4);
        Check.due("none of others", x.till(1), -1);
        Check.due("none of others", x.till(-1), -1);
    }

    private static void tillByFourHundred() {
        Edge.sentence("Promise 30: till: NONE: not by 400");
        // eight waits of 50 each are 400; one more of what they see each other late
        for (int late = -1; late <= 1; late++) {
            LongCarrier x = PromiseTest.ruled("loses 10; waits if tried = 7 then " + (50 + late) + " else 50 end;");
            x.tries(7);
            x.block(1, 1);
            x.open(0);
            Check.due("by " + (400 + late), x.till(0), late > 0 ? -1 : 400 + late);
            x.day(1);
            Check.due("by " + (399 + late), x.till(0), 399 + late);
        }
    }

    /** So many bytes of another BLOCK are OUT ahead of it, each in a tick of its own, seen once in 20. */
    private static void idealByFourHundred() {
        Edge.sentence("Promise 31: ideal: NONE likewise: not by 400");
        for (int ahead = 16; ahead <= 19; ahead++) {
            LongCarrier x = PromiseTest.quiet(ahead, 0);
            x.block(1, 1);
            x.size(1);
            x.open(0);
            x.window(20, 0, 1);
            // sent at 20 * ahead, REPORT 20 later, that comes 2 later and is got in that tick
            int ticks = 20 * ahead + 20 + 2 + 1;
            Check.due("behind " + ahead, x.ideal(1), ticks <= 400 ? ticks : -1);
        }
        LongCarrier x = PromiseTest.quiet(18, 0);
        x.block(1, 1);
        x.size(1);
        x.open(0);
        x.window(20, 0, 1);
        x.delay(19);
        Check.due("behind 400 just", x.ideal(1), 400);
        x.delay(20);
        // sent at 360, there and REPORT sent at 380, come at 400, got behind 401
        Check.due("not by 400", x.ideal(1), -1);
    }

    private static void ideal() {
        Edge.sentence("III: IDEAL: likewise, were a NEW one OPENED now");
        for (int clock : new int[] {0, 9993, 9999}) {
            LongCarrier x = Edge.at(clock);
            x.block(10, 6);
            x.block(10, 0);
            Check.due("at " + clock, x.ideal(0), 6);
            Check.due("without RED", x.ideal(1), 0);
            Check.due("others", x.ideal(2), -1);
            Check.due("others", x.ideal(-1), -1);
            x.open(0);
            Check.due("not NEW", x.ideal(0), -1);
            x.cancel(0, 0);
            Check.due("not NEW", x.ideal(0), -1);
        }
        LongCarrier x = PromiseTest.quiet(10, 10);
        x.block(1, 1);
        x.open(0);
        Check.due("behind three that are OUT", x.ideal(1), 8);
        x.size(1);
        x.block(30, 30);
        Check.due("its CHECKPOINT has no room: it never ends", x.ideal(2), -1);
    }

    private static void idealLosesNothing() {
        Edge.sentence("III: IDEAL: nothing lost any more (nothing being drawn)");
        LongCarrier x = PromiseTest.ruled("loses 10; waits 60;");
        x.block(10, 6);
        Check.due("though all is lost", x.ideal(0), 6);
        Check.due("X", x.is(1), 491);
        x.open(0);
        x.day(6);
        Check.due("it is lost for all that", x.of(0, 5), 0);
        x = new LongCarrier();
        x.block(1, 1);
        x.block(1, 1);
        x.ideal(0);
        x.open(0);
        Check.due("the others draw", x.foretold(3, 0, 5), 0);
        Check.due("the others draw", x.till(0) > 5, true);
        x.day(1);
        Check.due("491 is drawn: lost", x.is(4), 1);
        Check.due("what was lost ahead of it is", x.ideal(1), 5);
    }

    private static void spans() {
        Edge.sentence("III: SPANS of bits: bytes one behind the other; from the first, to behind the last; LONGEST");
        LongCarrier x = new LongCarrier();
        int[] bits = {0, 1, 0b10, 0b11, 0b101, 1 << 29, 0x20000001, Edge.ALL, 0x15555555, 0x2aaaaaaa, Edge.ALL - 1, Edge.ALL >> 1};
        int[] spans = {0, 1, 1, 1, 2, 1, 2, 1, 15, 15, 1, 1};
        int[] longest = {0, 1, 1, 2, 1, 1, 1, 30, 1, 1, 29, 29};
        int[] lastFrom = {-1, 0, 1, 0, 2, 29, 29, 0, 28, 29, 1, 0};
        int[] lastTo = {-1, 1, 2, 2, 3, 30, 30, 30, 29, 30, 30, 29};
        for (int i = 0; i < bits.length; i++) {
            Check.due("spans(" + bits[i] + ")", x.spans(bits[i]), spans[i]);
            Check.due("longest(" + bits[i] + ")", x.longest(bits[i]), longest[i]);
            Check.due("from of the last of " + bits[i], x.span(bits[i], spans[i] - 1, false), lastFrom[i]);
            Check.due("to of the last of " + bits[i], x.span(bits[i], spans[i] - 1, true), lastTo[i]);
            Check.due("none such of " + bits[i], x.span(bits[i], spans[i], true), -1);
            Check.due("none such of " + bits[i], x.span(bits[i], -1, true), -1);
        }
    }

    private static void within() {
        Edge.sentence("III: WITHIN: those bits from a byte to below one (0 to to, to 30)");
        LongCarrier x = new LongCarrier();
        for (int from = -1; from <= 31; from++) {
            for (int to = -1; to <= 31; to++) {
                int want = from < 0 || to > 30 || from > to ? -1 : (int) ((1L << to) - (1L << from));
                Check.due("within(ALL, " + from + ", " + to + ")", x.within(Edge.ALL, from, to), want);
                Check.due("within(0, " + from + ", " + to + ")", x.within(0, from, to), Math.min(0, want));
            }
        }
    }

    private static void joinedAndLess() {
        Edge.sentence("III: JOINED: those of either, LESS: those of the first but of the second");
        LongCarrier x = new LongCarrier();
        int[][] pairs = {{0, 0}, {Edge.ALL, 0}, {0, Edge.ALL}, {Edge.ALL, Edge.ALL}, {1 << 29, 1}, {1, 1 << 29}, {12, 10}};
        int[] join = {0, Edge.ALL, Edge.ALL, Edge.ALL, 0x20000001, 0x20000001, 14};
        int[] less = {0, Edge.ALL, 0, 0, 1 << 29, 1, 4};
        for (int i = 0; i < pairs.length; i++) {
            Check.due("join " + i, x.join(pairs[i][0], pairs[i][1]), join[i]);
            Check.due("less " + i, x.less(pairs[i][0], pairs[i][1]), less[i]);
        }
    }

    private static void until() {
        Edge.sentence("III: UNTIL SUN is so much more");
        LongCarrier x = new LongCarrier();
        for (int n = 0; n <= 60; n++) {
            Check.due("until(" + n + ")", x.until(n), n);
        }
        x.window(60, 0, 1);
        Check.due("until(0)", x.until(0), 0);
        Check.due("until(1)", x.until(1), 1);
        Check.due("until(60)", x.until(60), 59 * 60 + 1);
        x.window(60, 59, 60);
        Check.due("until(0)", x.until(0), 0);
        Check.due("until(1)", x.until(1), 60);
        Check.due("until(60)", x.until(60), 3600);
        x.day(30);
        Check.due("until(1)", x.until(1), 30);
        x.window(4, 1, 3);
        // CLOCK 30 is the second of the two
        Check.due("until(1)", x.until(1), 1);
        Check.due("until(2)", x.until(2), 4);
        Check.due("until(3)", x.until(3), 5);
        Check.due("at 9999", Edge.at(9999).until(60), 60);
    }

    private static void next() {
        Edge.sentence("III: NEXT: behind how many TICKS the first that is OUT at a side is sent (0: in the next one)");
        LongCarrier x = PromiseTest.quiet(1, 1);
        x.window(60, 59, 60);
        Check.due("nothing is OUT", x.next(0), -1);
        x.open(0);
        x.cancel(0, 1);
        Check.due("at side 0", x.next(0), 59);
        Check.due("at side 1", x.next(1), 59);
        Check.due("at no side", x.next(2), -1);
        Check.due("at no side", x.next(-1), -1);
        x.day(29);
        Check.due("at side 0", x.next(0), 30);
        x.day(30);
        Check.due("in the next one", x.next(0), 0);
        x.day(1);
        Check.due("it was sent", x.next(0), -1);
        Check.due("it was sent", x.next(1), -1);
        x = PromiseTest.quiet(8, 8);
        x.window(60, 0, 1);
        x.open(0);
        Check.due("in the next one", x.next(0), 0);
        x.day(1);
        Check.due("a period on", x.next(0), 59);
    }

    private static void roundTrip() {
        Edge.sentence("III: A ROUND TRIP: how many TICKS ahead of that in which that one comes");
        LongCarrier x = new LongCarrier();
        int[][] cases = {{1, 0, 1, 1, 2}, {1, 0, 1, 20, 40}, {60, 0, 1, 1, 61}, {60, 59, 60, 1, 120}, {60, 59, 60, 20, 139},
            {60, 0, 60, 20, 40}, {20, 0, 1, 20, 40}, {20, 1, 2, 20, 41}, {21, 0, 1, 20, 41}, {5, 1, 3, 2, 8}, {5, 1, 4, 2, 5}};
        for (int[] c : cases) {
            x.window(c[0], c[1], c[2]);
            x.delay(c[3]);
            Check.due("round by " + c[0] + ", " + c[1] + ", " + c[2] + ", " + c[3], x.round(), c[4]);
        }
        Check.due("at 9999", Edge.at(9999).round(), 4);
    }

    private static void rings() {
        Edge.sentence("III: A TIMER RINGS in which TICK (1: the next one), if nothing takes it");
        LongCarrier x = PromiseTest.ruled("loses 10; waits 3;");
        x.block(1, 1);
        Check.due("none such", x.rings(0), -1);
        x.open(0);
        x.day(1);
        Check.due("rings(0)", x.rings(0), 2);
        x.day(1);
        Check.due("in the next one", x.rings(0), 1);
        x.window(60, 1, 2);
        Check.due("hidden till 61", x.rings(0), 60);
        x.window(1, 0, 1);
        Check.due("none such", x.rings(1), -1);
        Check.due("none such", x.rings(-1), -1);
        x.day(1);
        Check.due("it has rung", x.rings(0), -1);
        x = PromiseTest.ruled("loses 10; waits 60;");
        x.block(1, 1);
        x.open(0);
        x.day(1);
        x.window(60, 0, 1);
        // 59 more are seen, at 60, 120 .. 3540
        Check.due("the farthest", x.rings(0), 3540);
        x = PromiseTest.carried(4);
        Check.due("though the REPORT takes it at 5", x.rings(0), 3);
    }

    private static long power(long base, int times) {
        long power = 1;
        for (int n = 0; n < times; n++) {
            power *= base;
        }
        return power;
    }

    private static void odds() {
        Edge.sentence("III: ODDS that all PIECES of the RED part came, each sent once, in lowest terms");
        int[] upper = {1, 9, 4, 7, 3, 1, 2, 3, 1, 1, 0};
        int[] lower = {1, 10, 5, 10, 5, 2, 5, 10, 5, 10, 1};
        for (int loses = 0; loses <= 10; loses++) {
            LongCarrier x = PromiseTest.ruled("loses " + loses + ";");
            x.block(9, 4);
            Check.due("upper by " + loses, x.odds(0, false), upper[loses]);
            Check.due("lower by " + loses, x.odds(0, true), lower[loses]);
            x.block(5, 0);
            Check.due("upper of no RED", x.odds(1, false), 1);
            Check.due("lower of no RED", x.odds(1, true), 1);
        }
        Edge.sentence("Promise 44: odds: NONE, if it has more than 18 such PIECES");
        for (int red = 17; red <= 20; red++) {
            LongCarrier x = PromiseTest.ruled("loses 1;");
            x.size(1);
            x.block(30, red);
            Check.due("upper of " + red, x.odds(0, false), red == 17 ? 16677181699666569L : red == 18 ? 150094635296999121L : -1);
            Check.due("lower of " + red, x.odds(0, true), red == 17 ? 100000000000000000L : red == 18 ? 1000000000000000000L : -1);
            x.size(2);
            Check.due("by twos", x.odds(0, true), power(10, (red + 1) / 2));
        }
        for (int loses = 0; loses <= 10; loses++) {
            LongCarrier x = PromiseTest.ruled("loses " + loses + ";");
            x.size(1);
            x.block(30, 18);
            x.block(30, 19);
            x.block(30, 30);
            Check.due("upper of 18 by " + loses, x.odds(0, false), power(upper[loses], 18));
            Check.due("of 19 by " + loses, x.odds(1, false), -1);
            Check.due("of 19 by " + loses, x.odds(1, true), -1);
            Check.due("of 30 by " + loses, x.odds(2, true), -1);
        }
        Edge.sentence("III: ODDS (loses as now, of so many bytes)");
        LongCarrier x = PromiseTest.ruled("loses if kind = 0 and number = 1 then bytes + clock else 10 end;");
        x.block(1, 1);
        x.block(9, 6);
        Check.due("of 4 and of 2 bytes", x.odds(1, false), 12);
        Check.due("of 4 and of 2 bytes", x.odds(1, true), 25);
        x.day(1);
        Check.due("later", x.odds(1, false), 7);
        Check.due("later", x.odds(1, true), 20);
        Check.due("BLOCK 0", x.odds(0, false), 0);
        Check.due("BLOCK 0", x.odds(0, true), 1);
        x.open(1);
        Check.due("not NEW", x.odds(1, false), -1);
    }

    private static void resent() {
        Edge.sentence("III: RESENT: by how much bytes sent are more than LENGTH (0 at least)");
        LongCarrier x = PromiseTest.ruled("loses 10; waits 2;");
        x.size(3);
        x.block(6, 3);
        Check.due("nothing sent", x.resent(0), 0);
        x.open(0);
        int[] more = {0, 0, 0, 3, 3, 6, 6};
        for (int tick = 0; tick < more.length; tick++) {
            Check.due("sent behind " + tick, x.resent(0), more[tick]);
            x.day(1);
        }
    }

    private static void idle() {
        Edge.sentence("III: IDLE: nothing is OUT or IN FLIGHT, no TIMER");
        LongCarrier x = PromiseTest.quiet(1, 0);
        Check.due("nothing", x.idle(), true);
        x.open(0);
        Check.due("OUT at side 0 alone", x.idle(), false);
        x.day(1);
        Edge.counts(x, 0, 0, 1, 0);
        Check.due("IN FLIGHT alone", x.idle(), false);
        x.day(2);
        Check.due("nothing", x.idle(), true);
        x = PromiseTest.ruled("loses if kind = 0 then 10 else 0 end; waits 60;");
        x.block(1, 1);
        x.open(0);
        x.day(1);
        Edge.counts(x, 0, 0, 0, 1);
        Check.due("a TIMER alone", x.idle(), false);
        x = PromiseTest.ruled("loses 10; waits 1;");
        x.tries(0);
        x.block(1, 1);
        x.open(0);
        x.day(2);
        Check.due("nothing", x.idle(), true);
        // the cancelling's TIMER rang for the last time, its answer waits
        x = PromiseTest.ruled("loses 0; waits 1;");
        x.tries(0);
        x.block(1, 1);
        x.open(0);
        x.cancel(0, 0);
        x.day(1);
        Edge.counts(x, 0, 0, 1, 0);
        x.window(60, 59, 60);
        x.day(2);
        Edge.counts(x, 0, 1, 0, 0);
        Check.due("OUT at side 1 alone", x.idle(), false);
    }

    private static void live() {
        Edge.sentence("III: LIVE: BLOCKS OPEN at side 0 and not CANCELLED at side 1");
        LongCarrier x = PromiseTest.quiet(1, 1);
        Check.due("none", new LongCarrier().live(), 0);
        x.block(1, 1);
        x.block(1, 1);
        Check.due("NEW", x.live(), 0);
        for (int block = 2; block >= 0; block--) {
            x.open(block);
            Check.due("OPEN", x.live(), 8 - (1 << block));
        }
        x.cancel(2, 1);
        Check.due("CANCELLED at side 1", x.live(), 3);
        x.cancel(1, 0);
        Check.due("CANCELLED at side 0", x.live(), 1);
        x.day(6);
        Check.due("DONE", x.live(), 0);
    }

    private static void wholeAndHonest() {
        Edge.sentence("III: WHOLE: all RED bytes have COME");
        LongCarrier x = PromiseTest.quiet(6, 5);
        x.size(1);
        x.block(4, 0);
        Check.due("none has", x.whole(0), false);
        Check.due("there is none", x.whole(1), true);
        Check.due("others", x.whole(2), false);
        Check.due("others", x.whole(-1), false);
        x.open(0);
        x.day(6);
        Check.due("all but one", x.whole(0), false);
        Check.due("four of five", x.of(0, 5), 4);
        x.day(1);
        Check.due("all of them", x.whole(0), true);
        Check.due("green is still to come", x.of(0, 5), 5);
        Edge.sentence("III: HONEST: no byte of any BLOCK is CLAIMED that has not COME");
        Check.due("no BLOCK", new LongCarrier().honest(), true);
        x = PromiseTest.quiet(4, 4);
        x.block(4, 4);
        x.open(0);
        x.open(1);
        x.cancel(1, 1);
        Check.due("CANCELLED, nothing having COME", x.honest(), true);
        x.cancel(0, 1);
        Check.due("CANCELLED, nothing having COME", x.honest(), true);
        x = Edge.busy();
        for (int n = 0; n < 12; n++) {
            Check.due("honest", x.honest(), true);
            x.day(3);
        }
    }

    private static void soonest() {
        Edge.sentence("III: SOONEST: the CLOCK at which a MESSAGE IN FLIGHT comes next");
        LongCarrier x = PromiseTest.quiet(12, 12);
        x.open(0);
        Check.due("none", x.soonest(), -1);
        x.delay(20);
        x.day(1);
        Check.due("one", x.soonest(), 20);
        x.delay(9);
        x.day(1);
        Check.due("the later is sooner", x.soonest(), 10);
        x.delay(20);
        x.day(1);
        Check.due("the one between", x.soonest(), 10);
        x.day(7);
        Check.due("in the next tick", x.soonest(), 10);
        x.day(1);
        // the REPORT of what came at 10? none, as that was no CHECKPOINT
        Check.due("the first", x.soonest(), 20);
        x.day(13);
        Check.due("the REPORT of what came at 22", x.soonest(), 42);
    }

    private static void busiest() {
        Edge.sentence("III: BUSIEST: the BLOCK most MESSAGES (OUT, IN FLIGHT) are of; of like ones the lowest; none");
        LongCarrier x = PromiseTest.quiet(4, 4);
        x.block(4, 4);
        x.block(4, 4);
        Check.due("no BLOCK", new LongCarrier().busiest(), -1);
        Check.due("none", x.busiest(), -1);
        x.open(2);
        Check.due("one of 2", x.busiest(), 2);
        x.open(1);
        Check.due("of like ones the lowest", x.busiest(), 1);
        x.day(1);
        Check.due("IN FLIGHT is as good as OUT", x.busiest(), 1);
        x.cancel(2, 1);
        Check.due("OUT at side 1, too: two of 2", x.busiest(), 2);
        x.open(0);
        Check.due("two of 2, one of each other", x.busiest(), 2);
        x.cancel(0, 1);
        Check.due("two of 0, two of 2", x.busiest(), 0);
        // a TIMER is none
        x = PromiseTest.ruled("loses if kind = 0 then 10 else 0 end;");
        x.block(4, 4);
        x.open(0);
        x.day(1);
        Check.due("a TIMER alone", x.busiest(), -1);
    }

    private static void whoseLaw() {
        Edge.sentence("IV. WHOSE LAW (SAID, 8 at most): TEXTS (bits) by whose loses all are so (as now)");
        LongCarrier x = new LongCarrier();
        Check.due("no TEXT", x.whose(), 0);
        for (int n = 1; n <= 8; n++) {
            Check.due("said", x.said(n % 5, 2), n);
        }
        Check.due("a ninth", x.said(0, 2), -2);
        Check.due("no TEXT", x.whose(), 0);
        Check.text(x, "loses 2;");
        Check.text(x, "waits 3;");
        Check.text(x, "loses if kind = 3 then 3 else 2 end;");
        Check.text(x, "loses 2 + number + bytes;");
        Check.due("without it: 2; of BLOCK 0 and no bytes", x.whose(), 0b1011);
        x.said(-1, 0);
        Check.due("none SAID: all", x.whose(), 0b1111);
        x.said(3, 3);
        Check.due("one alone", x.whose(), 0b0100);
        x.said(3, 2);
        Check.due("none is both", x.whose(), 0);
        x.said(-1, 0);
        x.by(2);
        x.said(3, 2);
        Check.due("whichever rules", x.whose(), 0b1011);
        x = new LongCarrier();
        Check.text(x, "loses clock - 3;");
        Check.text(x, "loses come 0;");
        Check.text(x, "loses 99;");
        Check.text(x, "loses -9;");
        x.block(1, 1);
        x.said(0, 0);
        Check.due("0 at least", x.whose(), 0b1011);
        x.said(-1, 0);
        x.said(4, 10);
        Check.due("10 at most", x.whose(), 0b0100);
        x.by(3);
        x.open(0);
        x.day(3);
        x.said(-1, 0);
        x.said(4, 1);
        Check.due("as now", x.whose(), 0b0010);
        x.day(1);
        Check.due("as now", x.whose(), 0b0011);
    }

    private static void byTheBook() {
        Edge.sentence("IV. BY THE BOOK: how many lines there are of a kind (of the latest 25)");
        LongCarrier x = PromiseTest.ruled("loses 10;");
        x.size(1);
        x.block(30, 0);
        for (int what = 0; what <= 5; what++) {
            Check.due("none", x.ledger(what), 0);
        }
        x.open(0);
        x.day(23);
        int[] lines = {1, 1, 0, 0, 23, 0};
        for (int what = 0; what <= 5; what++) {
            Check.due("ledger(" + what + ")", x.ledger(what), lines[what]);
        }
        x.day(1);
        Check.due("the eldest is gone", x.ledger(0), 0);
        Check.due("lost", x.ledger(4), 24);
        Check.due("lost, in all", x.is(4), 24);
        Check.due("ledger(6)", x.ledger(6), -2);
        Check.due("ledger(-1)", x.ledger(-1), -2);
    }

    private static void years() {
        Edge.sentence("V. YEARS: X is SEED (0 .. 9999) * 2 + 491; n times (1 .. 40)");
        LongCarrier x = new LongCarrier();
        Check.due("years(-1, 1)", x.years(-1, 1), -1);
        Check.due("years(10000, 1)", x.years(10000, 1), -1);
        Check.due("years(0, 0)", x.years(0, 0), -1);
        Check.due("years(0, 41)", x.years(0, 41), -1);
        Check.due("X", x.is(1), 491);
        Check.due("steps", x.about(3), 0);
        // x mod 8 is 3, 7, 1, 1, 0, 2 ...: 29 TICKS of 40, no BLOCK being told
        int[] mod = {3, 7, 1, 1, 0, 2, 1, 7, 1, 3, 6, 2, 2, 5, 5, 4, 3, 3, 5, 7, 3, 5, 2, 6, 6, 2, 0, 4, 4, 4, 3, 4, 4, 4, 2, 3, 5, 1,
            6, 5};
        int ticks = 0;
        for (int n = 1; n <= 40; n++) {
            ticks += mod[n - 1] > 1 ? 1 : 0;
            LongCarrier y = new LongCarrier();
            Check.due("years(0, " + n + ")", y.years(0, n), ticks);
            Check.due("one STEP", y.about(3), 1);
        }
        Check.due("years(9999, 1)", x.years(9999, 1), 20489 % 8 > 1 ? 1 : 0);
        Check.due("X", x.is(1), (20489 * 757 + 617) % 31091);
        Check.due("years(0, 1)", x.years(0, 1), x.is(0));
        Check.due("X begins anew", x.is(1), 30303);
    }

    private static int seedFor(int rest, int block, int side, int third) {
        for (int seed = 0; seed < 10000; seed++) {
            int x = seed * 2 + 491;
            if (x % 8 == rest && x / 8 % 3 == block && x / 16 % 2 == side && x % 3 == third) {
                return seed;
            }
        }
        return -1;
    }

    private static LongCarrier threeOpen() {
        LongCarrier x = PromiseTest.quiet(1, 1);
        x.block(1, 1);
        x.block(1, 1);
        for (int block = 0; block < 3; block++) {
            x.open(block);
        }
        return x;
    }

    private static void yearsCancel() {
        Edge.sentence("V: 1 it is CANCELLED by side x / 16 mod 2, if x mod 3 is 0");
        int met = 0;
        for (int block = 0; block < 3; block++) {
            for (int side = 0; side < 2; side++) {
                for (int third = 0; third < 3; third++) {
                    int seed = seedFor(1, block, side, third);
                    if (seed < 0) {
                        continue;
                    }
                    met++;
                    LongCarrier x = threeOpen();
                    Check.due("years(" + seed + ", 1)", x.years(seed, 1), 0);
                    for (int other = 0; other < 3; other++) {
                        boolean it = other == block && third == 0;
                        Check.due("at side 0", x.of(other, 2), it && side == 0 ? 3 : 1);
                        Check.due("at side 1", x.of(other, 3), it && side == 1 ? 3 : 0);
                    }
                    Check.due("written down", x.ledger(2 + side), third == 0 ? 1 : 0);
                    Check.due("a cancelling", x.out(side, -1, 0), side == 0 ? 3 : third == 0 ? 1 : 0);
                    Check.due("a STEP", x.about(3), 4);
                    int lines = x.book(-1, 0);
                    x.years(seed, 1);
                    Check.due("else nothing", x.book(-1, 0), lines);
                    Check.due("a STEP for all that", x.about(3), 5);
                }
            }
        }
        // 8 q + 1 is a multiple of 3 just if q mod 3 is 1
        Check.due("BLOCKS by sides", met, 6);
    }

    /** All seeds that cancel with their first draw. */
    private static void yearsCancelBySides() {
        Edge.sentence("V: CANCELLED by side x / 16 mod 2");
        LongCarrier x = threeOpen();
        x.image();
        for (int seed = 0; seed < 10000; seed++) {
            int first = seed * 2 + 491;
            if (first % 8 == 1 && first % 3 == 0) {
                x.back();
                x.years(seed, 1);
                int side = first / 16 % 2;
                Check.due("by seed " + seed, x.of(first / 8 % 3, 2 + side), 3);
                Check.due("by seed " + seed, x.ledger(2 + side), 1);
            }
        }
    }

    private static void yearsOpen() {
        Edge.sentence("V: 0 BLOCK x / 8 mod 3 is OPENED (if it can be; else nothing)");
        // the first x is odd, so the second does it
        boolean[] met = new boolean[3];
        for (int seed = 0; seed < 1000; seed++) {
            int first = seed * 2 + 491;
            int second = (first * 757 + 617) % 31091;
            int block = second / 8 % 3;
            if (first % 8 < 2 || second % 8 != 0 || met[block]) {
                continue;
            }
            met[block] = true;
            LongCarrier x = PromiseTest.quiet(1, 1);
            Check.due("a TICK and that", x.years(seed, 2), 1);
            Check.due("if it is told", x.of(0, 2), block == 0 ? 1 : 0);
            x = PromiseTest.quiet(1, 1);
            x.block(1, 1);
            x.block(1, 1);
            x.years(seed, 2);
            for (int other = 0; other < 3; other++) {
                Check.due("OPEN", x.of(other, 2), other == block ? 1 : 0);
            }
            Edge.note(x, 0, 1, 0, block, 0);
            Check.due("X", x.is(1), (second * 757 + 617) % 31091);
            Check.due("a STEP", x.about(3), 1);
            x.years(seed, 2);
            Check.due("not NEW: nothing", x.ledger(0), 1);
        }
        Check.due("all are met", met[0] && met[1] && met[2], true);
    }

    private static void yearsTick() {
        Edge.sentence("V: others a TICK (if it can pass)");
        for (int clock : new int[] {9997, 9998, 9999}) {
            LongCarrier x = Edge.at(clock);
            Check.due("two TICKS at " + clock, x.years(0, 2), 9999);
            Check.due("X", x.is(1), 25921);
            Check.due("SUN", x.is(2), 9999);
        }
        Edge.sentence("V: x is X, then X is anew (as in a draw)");
        // a TICK that draws for a MESSAGE: X is anew ahead of that
        LongCarrier x = PromiseTest.quiet(1, 0);
        x.open(0);
        x.years(0, 1);
        Check.due("491, then 30303 for the MESSAGE", x.is(1), 25921);
        Check.due("sent", x.is(3), 1);
    }

    private static void image() {
        Edge.sentence("V: AN IMAGE: all as it is, but the tape and the latest FAULT. BACK: all is so again");
        LongCarrier x = Edge.busy();
        LongCarrier y = Edge.busy();
        Check.due("image", x.image(), 4);
        x.day(7);
        x.years(3, 9);
        x.cancel(1, 0);
        x.block(3, 3);
        x.window(3, 2, 3);
        x.delay(1);
        x.size(9);
        x.tries(0);
        x.said(-1, 0);
        Check.text(x, "loses 8;");
        x.by(1);
        for (int n = 0; n < 9; n++) {
            x.undo();
        }
        x.back();
        y.image();
        Check.tape(x, "loses 5; day 4; block 2 of 3; waits clock;");
        Check.due("the latest FAULT is that of the latest TEXT", x.fault(0), 0);
        Edge.same("BACK", x, y);
        x = new LongCarrier();
        x.feed(1, 2, 3, 4, 5);
        Check.due("back at once", x.back(), 0);
        Check.due("the tape stays", x.about(5), 20);
        x.end(0);
        Check.text(x, "loses 1");
        x.feed(1, 2, 3, 4, 5);
        x.image();
        x.end(7);
        x.back();
        Check.due("the tape is as it is", x.about(5), 7);
        Check.due("the FAULT is as it is", x.fault(0) * 100 + x.fault(1), 107);
        x.end(0);
        Check.text(x, "loses 1;");
        x.back();
        Check.due("no TEXT", x.about(1), 0);
        Check.due("the FAULT is as it is", x.fault(0), 0);
    }

    private static void imageOfSaid() {
        Edge.sentence("V: BACK: all is so again (SAID)");
        LongCarrier x = PromiseTest.ruled("loses kind * 2;");
        for (int n = 0; n < 8; n++) {
            x.said(n % 5, n % 5 * 2);
        }
        x.image();
        x.said(-1, 0);
        for (int n = 0; n < 8; n++) {
            x.said(0, n < 7 ? 0 : 1);
        }
        Check.due("the last isn't so", x.whose(), 0);
        x.back();
        Check.due("as many", x.about(4), 8);
        Check.due("all are so", x.whose(), 1);
        x.said(-1, 0);
        x.said(1, 5);
        x.image();
        x.said(-1, 0);
        x.said(1, 2);
        Check.due("so", x.whose(), 1);
        x.back();
        Check.due("not so", x.whose(), 0);
        x.said(-1, 0);
        x.said(2, 4);
        x.image();
        x.said(-1, 0);
        x.said(3, 4);
        Check.due("not so", x.whose(), 0);
        x.back();
        Check.due("so", x.whose(), 1);
    }

    private static LongCarrier fortySteps() {
        LongCarrier x = Edge.at(10);
        x.block(30, 25);
        x.open(0);
        x.day(29);
        return x;
    }

    private static void imageOfSteps() {
        Edge.sentence("V: BACK: all is so again (STEPS, each as it was)");
        LongCarrier x = fortySteps();
        LongCarrier y = fortySteps();
        x.image();
        y.image();
        x.day(30);
        x.open(0);
        x.back();
        Edge.same("BACK behind thirty more", x, y);
        x = fortySteps();
        y = fortySteps();
        for (int n = 0; n < 5; n++) {
            x.undo();
            y.undo();
        }
        x.image();
        y.image();
        for (int n = 0; n < 25; n++) {
            x.undo();
        }
        Check.due("the opening is taken back", x.of(0, 2), 0);
        x.day(9);
        x.back();
        Check.due("STEPS", x.about(3), 25);
        Edge.same("BACK behind what was taken back", x, y);
    }
}
