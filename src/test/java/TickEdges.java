/** The edges of a TICK (part I): what comes, what is sent and drawn, what starts, what rings, what is got, what is written down. */
final class TickEdges {
    private TickEdges() {
    }

    static void run() {
        comesAtItsClock();
        inTheOrderSent();
        nothingWhileHidden();
        sideBySide();
        aDrawEach();
        belowLoses();
        drawnAnew();
        lostOrNot();
        whatStartsTimers();
        sixteenTimers();
        sixteenRing();
        fortyInFlight();
        whenItRings();
        ringsInOrder();
        goneByThen();
        triesAndOftener();
        ifItCanBe();
        aCancellingRings();
        asItWasSent();
        othersAreTriedNever();
        clockAtTheEnd();
    }

    private static void comesAtItsClock() {
        Edge.sentence("I: (1) MESSAGES IN FLIGHT that come at this CLOCK are got");
        LongCarrier x = PromiseTest.quiet(1, 1);
        x.delay(3);
        x.open(0);
        x.day(3);
        Edge.of(x, 0, 1, 1, 1, 0, 0, 0);
        Check.due("IN FLIGHT", x.flight(-1, 0), 1);
        x.day(1);
        Edge.of(x, 0, 1, 1, 1, 0, 0, 1);
        Check.due("though they don't see each other", hiddenWhenItComes().of(0, 5), 1);
    }

    private static LongCarrier hiddenWhenItComes() {
        LongCarrier x = PromiseTest.quiet(1, 1);
        x.window(3, 0, 1);
        x.open(0);
        x.day(3);
        return x;
    }

    private static void inTheOrderSent() {
        Edge.sentence("I: (1) MESSAGES IN FLIGHT that come at this CLOCK, in the order in which they were sent");
        // bytes 0 to 2, then the CHECKPOINT, both come at 2
        LongCarrier x = PromiseTest.quiet(4, 4);
        x.size(2);
        x.open(0);
        x.day(1);
        x.delay(1);
        x.day(2);
        Edge.flight(x, 0, 1, 0, 1, 0, 1, 0b1111, 0, 3, 0);
        // the CHECKPOINT of BLOCK 1, sent first, and that of BLOCK 0, both come at 3, while hidden
        x = PromiseTest.quiet(1, 1);
        x.block(1, 1);
        x.delay(3);
        x.open(1);
        x.day(1);
        x.delay(2);
        x.open(0);
        x.day(1);
        x.window(60, 59, 60);
        x.day(2);
        Check.due("two REPORTS", x.out(1, -1, 0), 2);
        Edge.out(x, 1, 0, 1, 1, 1);
        Edge.out(x, 1, 1, 1, 0, 1);
        // one sent later that comes sooner is got first
        x = PromiseTest.quiet(4, 4);
        x.size(2);
        x.delay(5);
        x.open(0);
        x.day(1);
        x.delay(1);
        x.day(2);
        Edge.of(x, 0, 4, 4, 1, 0, 0, 2);
        Check.due("the later one", x.come(0, 0, false), 2);
    }

    private static void nothingWhileHidden() {
        Edge.sentence("I: (2) If SEEN (3) If SEEN: SUN is one more, and TIMERS ring");
        LongCarrier x = PromiseTest.ruled("loses 0; waits 3;");
        x.block(4, 4);
        x.size(2);
        x.open(0);
        x.day(2);
        int drawn = x.is(1);
        x.cancel(0, 1);
        x.window(5, 2, 3);
        x.day(1);
        Check.due("SUN by one seen", x.is(2), 3);
        Check.due("sent", x.is(3), 3);
        x.day(4);
        Check.due("SUN stands", x.is(2), 3);
        Check.due("nothing is sent", x.is(3), 3);
        Check.due("nothing is drawn", x.is(1), (drawn * 757 + 617) % 31091);
        Check.due("the TIMER of the cancelling doesn't ring", x.timer(0, 1), 3);
        Check.due("nor did that of the CHECKPOINT, which the cancelling took", x.ledger(5), 0);
        Check.due("CLOCK goes on", x.is(0), 7);
    }

    private static void sideBySide() {
        Edge.sentence("I: (2) side 0, then side 1, that has any OUT, sends its first");
        // 491 is drawn for side 0: lost by 2; 30303 for side 1: not
        LongCarrier x = new LongCarrier();
        x.block(8, 8);
        x.open(0);
        x.cancel(0, 1);
        Check.due("one each", x.day(1), 2);
        Check.due("X", x.is(1), 25921);
        Check.due("lost", x.is(4), 1);
        Edge.counts(x, 1, 0, 1, 1);
        Edge.flight(x, 0, 3, 0, 0, 0, 0, 0, 0, 2, 0);
        Edge.out(x, 0, 0, 0, 0, 1, 4, 8, 0, 0);
        Edge.note(x, 2, 0, 4, 0, 0);
        // both are sent: in flight side 0's comes first
        x = PromiseTest.quiet(8, 8);
        x.open(0);
        x.cancel(0, 1);
        Check.due("one each", x.day(1), 2);
        Edge.flight(x, 0, 0, 0, 0, 0, 4, 0, 0, 2, 1);
        Edge.flight(x, 1, 3, 0, 0, 0, 0, 0, 0, 2, 0);
    }

    private static void aDrawEach() {
        Edge.sentence("I: (2) that has any OUT: a draw");
        LongCarrier x = new LongCarrier();
        Check.due("none is sent", x.day(1), 0);
        Check.due("nothing is drawn", x.is(1), 491);
        x.block(1, 0);
        x.open(0);
        Check.due("one is sent", x.day(1), 1);
        Check.due("one is drawn", x.is(1), 30303);
        Check.due("none more", x.day(1), 0);
        Check.due("nothing is drawn", x.is(1), 30303);
    }

    private static void belowLoses() {
        Edge.sentence("I: (2) a draw by 10 (X mod 10): below loses it is lost");
        boolean[] met = new boolean[10];
        for (int seed = 0; seed < 300; seed++) {
            int x = seed * 2 + 491;
            int next = (x * 757 + 617) % 31091;
            int digit = next % 10;
            if (x % 8 < 2 || met[digit]) {
                continue;
            }
            met[digit] = true;
            for (int loses = 0; loses <= 10; loses++) {
                LongCarrier c = PromiseTest.ruled("loses " + loses + ";");
                c.block(1, 0);
                c.years(seed, 1);
                Check.due("X", c.is(1), next);
                c.open(0);
                c.day(1);
                Check.due("lost, " + digit + " being drawn by " + loses, c.is(4), digit < loses ? 1 : 0);
                Check.due("IN FLIGHT", c.flight(-1, 0), digit < loses ? 0 : 1);
            }
        }
        for (boolean one : met) {
            Check.due("each digit is met", one, true);
        }
    }

    private static void drawnAnew() {
        Edge.sentence("I: (2) X becoming (X * 757 + 617) mod 31091 behind it");
        LongCarrier x = PromiseTest.ruled("loses 10;");
        x.size(1);
        x.block(24, 0);
        x.open(0);
        int[] drawn = {30303, 25921, 4393, 30472, 29490, 1209, 14191, 16809, 8811, 17070, 19842, 4058, 25605, 13909, 20972, 20011,
            7627, 22421, 28719, 8291, 27613, 10506, 25454, 23966};
        for (int want : drawn) {
            x.day(1);
            Check.due("X", x.is(1), want);
        }
    }

    private static void lostOrNot() {
        Edge.sentence("I: (2) Lost or not, of a CHECKPOINT a TIMER starts; tried as often as the MESSAGE is");
        for (int loses : new int[] {0, 10}) {
            LongCarrier x = PromiseTest.ruled("loses " + loses + "; waits 2 + tried;");
            x.window(9, 0, 8);
            x.block(1, 1);
            x.open(0);
            x.delay(20);
            x.day(1);
            Edge.counts(x, 0, 0, loses == 0 ? 1 : 0, 1);
            Edge.timer(x, 0, 0, 0, 0, 1, 2, 0);
            x.day(2);
            Edge.timer(x, 0, 0, 0, 0, 1, 5, 1);
            x.day(3);
            Edge.timer(x, 0, 0, 0, 0, 1, 9, 2);
        }
    }

    private static void whatStartsTimers() {
        Edge.sentence("I: (2) of a CHECKPOINT, a REPORT, a cancelling a TIMER starts (of others none)");
        LongCarrier x = PromiseTest.quiet(4, 2);
        x.size(1);
        x.open(0);
        x.day(1);
        Check.due("data without a SERIAL", x.timer(-1, 0), 0);
        x.day(1);
        Check.due("a CHECKPOINT", x.timer(-1, 0), 1);
        x.day(2);
        Edge.timer(x, 0, 0, 0, 0, 1, 7, 0);
        Edge.timer(x, 1, 1, 1, 0, 1, 9, 0);
        Check.due("green none, a REPORT one", x.timer(-1, 0), 2);
        x.day(2);
        Check.due("the answer is sent", x.flight(0, 0), 2);
        Check.due("of it none", x.timer(-1, 0), 1);
        x = PromiseTest.quiet(1, 1);
        x.open(0);
        x.cancel(0, 1);
        x.cancel(0, 0);
        x.day(1);
        Edge.timer(x, 0, 0, 3, 0, 0, 6, 0);
        Edge.timer(x, 1, 1, 3, 0, 0, 6, 0);
        x.day(2);
        Check.due("the answers are sent", x.flight(0, 0) + x.flight(1, 0), 8);
        // the cancelling that comes to side 1 took the TIMER there
        Check.due("of them none", x.timer(-1, 0), 1);
        Edge.timer(x, 0, 0, 3);
    }

    /** Fifteen REPORTS are lost and wait; CHECKPOINTS ring in the tick in which they are sent. */
    private static LongCarrier fifteen(String waits) {
        LongCarrier x = PromiseTest.ruled("loses if kind = 1 then 10 else 0 end; waits if kind = 0 then 1 else " + waits + " end;");
        Check.text(x, "loses if kind = 1 then 10 else 0 end; waits " + waits + ";");
        x.tries(9);
        x.delay(1);
        for (int block = 0; block < 3; block++) {
            x.block(1, 1);
            x.open(block);
        }
        x.day(16);
        Check.due("fifteen", x.timer(-1, 0), 15);
        return x;
    }

    private static void sixteenTimers() {
        Edge.sentence("I: (2) a TIMER starts (16 at most; none more starts)");
        LongCarrier x = fifteen("60");
        x.day(1);
        Check.due("in this one the CHECKPOINT's is the 16th till it rings", x.timer(-1, 0), 15);
        Check.due("REPORTS", x.of(0, 7) + x.of(1, 7) + x.of(2, 7), 16);
        x = fifteen("60");
        x.by(1);
        x.day(1);
        Check.due("the 16th, of side 0", x.timer(-1, 0), 16);
        Edge.timer(x, 15, 0, 0, 1, 1, 76, 5);
        Edge.timer(x, 14, 1, 1, 2, 5, 75, 0);
        Check.due("none such", x.timer(16, 0), -2);
        int sent = x.is(3);
        x.day(1);
        Check.due("two are sent", x.is(3) - sent, 2);
        Check.due("none more", x.timer(-1, 0), 16);
        Edge.timer(x, 15, 0, 0, 1, 1, 76, 5);
    }

    private static void sixteenRing() {
        Edge.sentence("I: (3) TIMERS that ring at SUN or before ring (all sixteen in one TICK)");
        LongCarrier x = fifteen("40 - sun");
        x.by(1);
        x.day(23);
        Check.due("CLOCK", x.is(0), 39);
        Edge.counts(x, 0, 0, 0, 16);
        for (int i = 0; i < 16; i++) {
            Check.due("rings at", x.timer(i, 4), 40);
            Check.due("in the next one", x.rings(i), 1);
        }
        x.day(1);
        Edge.counts(x, 1, 15, 0, 0);
        for (int i = 0; i < 16; i++) {
            Edge.note(x, 9 + i, 39, 5, i == 15 ? 1 : i % 3, i == 15 ? 0 : 1);
        }
        Edge.out(x, 0, 0, 0, 1, 1, 0, 1, 0, 6);
        Edge.out(x, 1, 14, 1, 2, 5, 0, 1, 1, 1);
    }

    private static void fortyInFlight() {
        Edge.sentence("I: it is IN FLIGHT, to come at CLOCK and DELAY (of how many nothing is said)");
        // each side sends one a tick: what is sent rings at once and is OUT again
        LongCarrier x = PromiseTest.ruled("loses 0; waits 1;");
        x.tries(9);
        x.delay(20);
        for (int block = 0; block < 3; block++) {
            x.block(1, 1);
            x.open(block);
            x.cancel(block, 1);
        }
        x.day(20);
        Edge.counts(x, 3, 3, 40, 0);
        for (int i = 0; i < 40; i++) {
            int block = i / 2 % 3;
            Edge.flight(x, i, i % 2 == 0 ? 0 : 3, block, 1 - i % 2, 0, 1 - i % 2, 0, i / 6, 20 + i / 2, 1 - i % 2);
        }
        Check.due("none such", x.flight(40, 0), -2);
        Check.due("soonest", x.soonest(), 20);
        x.day(1);
        Check.due("two have come, two are sent", x.flight(-1, 0), 40);
        Edge.flight(x, 0, 0, 1, 1, 0, 1, 0, 0, 21, 1);
    }

    private static void whenItRings() {
        Edge.sentence("I: (2) it rings at SUN and waits (3) TIMERS that ring at SUN or before");
        for (int waits : new int[] {1, 2, 60}) {
            LongCarrier x = PromiseTest.ruled("loses 10; waits " + waits + ";");
            x.block(1, 1);
            x.day(7);
            x.open(0);
            if (waits > 1) {
                x.day(1);
                Edge.timer(x, 0, 0, 0, 0, 1, 7 + waits, 0);
                Check.due("rings", x.rings(0), waits - 1);
                for (int left = waits - 2; left > 0; left--) {
                    x.day(1);
                }
                Check.due("not yet by " + waits, x.timer(-1, 0), 1);
            }
            x.day(1);
            Check.due("rung by " + waits, x.ledger(5), 1);
            Edge.counts(x, 1, 0, 0, 0);
            Edge.note(x, 2, 7 + waits - 1, 5, 0, 0);
        }
    }

    private static void ringsInOrder() {
        Edge.sentence("I: (3) in the order in which they started");
        LongCarrier x = PromiseTest.ruled("loses 10; waits 5 - sun;");
        for (int block = 0; block < 3; block++) {
            x.block(1, 1);
        }
        x.open(2);
        x.open(0);
        x.open(1);
        x.day(5);
        int[] order = {2, 0, 1};
        for (int i = 0; i < 3; i++) {
            Edge.note(x, 6 + i, 4, 5, order[i], 0);
            Edge.out(x, 0, i, 0, order[i], 1, 0, 1, 0, 1);
        }
        Check.due("lines", x.book(-1, 0), 9);
    }

    private static void goneByThen() {
        Edge.sentence("I: (3) TIMERS ring (those that are gone by then do not)");
        // two REPORTS of one BLOCK are lost, both ring at SUN 6, the first CANCELS it
        LongCarrier x = PromiseTest.ruled("loses if kind = 1 then 10 else 0 end; "
            + "waits if kind = 0 then 1 + tried * 50 else if kind = 1 then 6 - sun else 60 end end;");
        x.delay(1);
        x.block(1, 1);
        x.open(0);
        x.day(3);
        Check.due("REPORTS", x.of(0, 7), 2);
        Check.due("TIMERS", x.timer(-1, 0), 3);
        x.tries(0);
        x.day(3);
        Check.due("CANCELLED at side 1", x.of(0, 3), 3);
        Check.due("that of the CHECKPOINT and the first REPORT's have rung", x.ledger(5), 2);
        Check.due("once CANCELLED", x.ledger(3), 1);
        int lines = x.book(-1, 0);
        Edge.note(x, lines - 2, 5, 5, 0, 1);
        Edge.note(x, lines - 1, 5, 3, 0, 0);
        Edge.counts(x, 0, 1, 0, 1);
        Edge.timer(x, 0, 0, 0, 0, 1, 52, 1);
        Edge.out(x, 1, 0, 3, 0, 0, 0, 0, 0, 0);
    }

    private static void triesAndOftener() {
        Edge.sentence("I: (3) is it tried as often as TRIES says, or oftener, its BLOCK is CANCELLED by that side, else OUT again");
        for (int most = 0; most <= 4; most++) {
            LongCarrier x = PromiseTest.ruled("loses 10; waits 1 + 2 * tried;");
            x.tries(9);
            x.block(1, 1);
            x.open(0);
            // sent at 0, 1, 4, tried 0, 1, 2 times; rings in 0, 3, 8
            x.day(8);
            Edge.timer(x, 0, 0, 0, 0, 1, 9, 2);
            x.tries(most);
            x.day(1);
            Check.due("tried twice of " + most, x.of(0, 2), most <= 2 ? 3 : 1);
            if (most <= 2) {
                Edge.out(x, 0, 0, 3, 0, 0, 0, 0, 0, 0);
            } else {
                Edge.out(x, 0, 0, 0, 0, 1, 0, 1, 0, 3);
            }
            Edge.counts(x, 1, 0, 0, 0);
            int lines = x.book(-1, 0);
            Edge.note(x, most <= 2 ? lines - 2 : lines - 1, 8, 5, 0, 0);
        }
    }

    private static void ifItCanBe() {
        Edge.sentence("I: (3) its BLOCK is CANCELLED by that side (if it can be)");
        // the REPORT has come and the BLOCK is DONE, but the answer is lost
        LongCarrier x = PromiseTest.ruled("loses if kind = 2 then 10 else 0 end; waits 8;");
        x.tries(0);
        x.block(1, 1);
        x.open(0);
        x.day(10);
        Check.due("rung", x.ledger(5), 1);
        Edge.of(x, 0, 1, 1, 2, 0, 1, 1, 1, 1, 1);
        Check.due("idle", x.idle(), true);
        Check.due("not CANCELLED", x.ledger(2) + x.ledger(3), 0);
        // CANCELLED at side 0, whose cancelling is lost
        x = PromiseTest.ruled("loses if kind > 0 then 10 else 0 end; waits 4;");
        x.tries(0);
        x.block(1, 1);
        x.open(0);
        x.day(1);
        x.cancel(0, 0);
        x.day(5);
        Check.due("both have rung", x.ledger(5), 2);
        Edge.of(x, 0, 1, 1, 3, 0, 0, 1, 1, 1, 1);
        Check.due("CANCELLED once", x.ledger(2) + x.ledger(3), 1);
        Check.due("idle", x.idle(), true);
    }

    private static void aCancellingRings() {
        Edge.sentence("I: (3) a TIMER of a cancelling: nothing");
        LongCarrier x = PromiseTest.ruled("loses 10; waits 1;");
        x.tries(1);
        x.block(1, 1);
        x.open(0);
        x.cancel(0, 0);
        x.day(1);
        Edge.out(x, 0, 0, 3, 0, 0, 0, 0, 0, 1);
        x.day(1);
        Check.due("nothing more", x.idle(), true);
        Edge.of(x, 0, 1, 1, 3, 0);
        Check.due("CANCELLED by hand alone", x.ledger(2) + x.ledger(3), 1);
        Check.due("rung", x.ledger(5), 2);
        // that of side 1, too, though side 0 is OPEN
        x = PromiseTest.ruled("loses 10; waits if kind = 3 then 1 else 60 end;");
        x.tries(0);
        x.block(1, 1);
        x.open(0);
        x.cancel(0, 1);
        x.day(1);
        Edge.counts(x, 0, 0, 0, 1);
        Edge.timer(x, 0, 0, 0, 0, 1, 60, 0);
        Edge.of(x, 0, 1, 1, 1, 3);
        Check.due("CANCELLED by hand alone", x.ledger(2) + x.ledger(3), 1);
        Check.due("rung", x.ledger(5), 1);
    }

    private static void asItWasSent() {
        Edge.sentence("I: (3) its MESSAGE (as it was sent) is put OUT again, tried once more");
        LongCarrier x = PromiseTest.ruled("loses 10; waits 4;");
        x.block(9, 9);
        x.open(0);
        x.day(3);
        x.size(1);
        x.day(3);
        Edge.counts(x, 1, 0, 0, 0);
        Edge.out(x, 0, 0, 0, 0, 1, 8, 9, 0, 1);
        // a REPORT of one CHECKPOINT, more of the BLOCK having come since
        x = PromiseTest.ruled("loses if kind = 1 then 10 else 0 end; waits if kind = 0 then 60 else 4 end;");
        x.size(1);
        x.block(3, 2);
        x.delay(5);
        x.open(0);
        x.day(1);
        x.delay(1);
        x.day(2);
        Edge.timer(x, 1, 1, 1, 0, 1, 6, 0);
        x.day(4);
        Check.due("all has come", x.of(0, 5), 3);
        Edge.timer(x, 1, 1, 1, 0, 1, 10, 1);
        x.day(3);
        Edge.out(x, 1, 0, 1, 0, 1, 0, 1, 0b10, 2);
        // behind what is OUT already
        x = PromiseTest.ruled("loses 10; waits 2;");
        x.size(1);
        x.block(1, 1);
        x.block(3, 0);
        x.open(0);
        x.open(1);
        x.day(2);
        Edge.counts(x, 3, 0, 0, 0);
        Edge.out(x, 0, 2, 0, 0, 1, 0, 1, 0, 1);
    }

    private static void othersAreTriedNever() {
        Edge.sentence("I: (3) tried once more (others are tried 0 times)");
        // the CHECKPOINT comes when it is tried for the second time
        LongCarrier x = PromiseTest.ruled("loses if clock < 2 then 10 else 0 end; waits if clock < 3 then 2 else 60 end;");
        x.size(1);
        x.block(2, 2);
        x.open(0);
        x.day(4);
        Edge.flight(x, 0, 0, 0, 1, 1, 2, 0, 1, 5, 1);
        x.day(2);
        Edge.flight(x, 0, 1, 0, 1, 0, 1, 0b10, 0, 7, 0);
        x.day(2);
        Edge.flight(x, 0, 2, 0, 1, 0, 0, 0, 0, 9, 1);
        Edge.out(x, 0, 0, 0, 0, 2, 0, 1, 0, 0);
    }

    private static void clockAtTheEnd() {
        Edge.sentence("I: CLOCK is one more (at 9999 none can pass)");
        LongCarrier x = Edge.at(9997);
        x.block(1, 1);
        x.open(0);
        Check.due("day(3)", x.day(3), -1);
        Check.due("CLOCK", x.is(0), 9997);
        Check.due("day(2)", x.day(2), 1);
        Check.due("CLOCK", x.is(0), 9999);
        Check.due("what comes then doesn't come", x.soonest(), 9999);
        Check.due("day(1)", x.day(1), -1);
        Check.due("years", x.years(0, 1), 9999);
        Check.due("SUN", x.is(2), 9999);
        Check.due("come", x.of(0, 5), 0);
    }
}
