/** Promises 18 to 32, 41 to 43, 45 to 47, 52 to 55: what can be asked of how it stands and what is to come. */
final class AskedPromises {
    private AskedPromises() {
    }

    static void run() {
        of();
        ofManyBlocks();
        spansOfBlocks();
        lines();
        timers();
        is();
        seenAndUntil();
        book();
        foretold();
        till();
        ideal();
        whole();
        nextAndRound();
        rings();
        resentAndIdle();
        live();
        soonestAndBusiest();
        honestAndLedger();
        nothingChanges();
    }

    private static void of() {
        PromiseTest.promise(18);
        LongCarrier x = PromiseTest.carried(4);
        int[] of = {10, 6, 1, 0, 0, 6, 1, 1, 10};
        for (int what = 0; what < of.length; what++) {
            Check.due("of(0, " + what + ")", x.of(0, what), of[what]);
        }
        for (int wrong : PromiseTest.wrongNumbers(0, 8)) {
            Check.due("of(0, " + wrong + ")", x.of(0, wrong), -2);
        }
        for (int wrong : PromiseTest.wrongNumbers(0, 0)) {
            Check.due("of(" + wrong + ", 0)", x.of(wrong, 0), -2);
        }
        x.day(5);
        int[] then = {10, 6, 2, 0, 6, 10, 1, 1, 10};
        for (int what = 0; what < then.length; what++) {
            Check.due("of(0, " + what + ")", x.of(0, what), then[what]);
        }
    }

    private static void ofManyBlocks() {
        PromiseTest.promise(18);
        LongCarrier x = PromiseTest.carried(0);
        x.block(7, 3);
        x.block(9, 1);
        x.open(2);
        x.day(5);
        Check.due("of(1, 8)", x.of(1, 8), 0);
        Check.due("of(2, 8)", x.of(2, 8), 5);
        Check.due("of(0, 8)", x.of(0, 8), 10);
        Check.due("of(3, 0)", x.of(3, 0), -2);
    }

    private static void spansOfBlocks() {
        // by two bytes, the second and the fourth piece lost, the last the CHECKPOINT
        LongCarrier x = PromiseTest.ruled("loses if clock = 1 or clock = 3 then 10 else 0 end; waits 60;");
        x.size(2);
        x.block(12, 10);
        x.open(0);
        x.day(12);
        int[][] come = {{0, 2}, {4, 6}, {8, 12}};
        int[][] claims = {{0, 2}, {4, 6}, {8, 10}};
        int[][] gaps = {{2, 4}, {6, 8}};
        x.undo();
        x.undo();
        x.undo();
        for (int i = 0; i < 3; i++) {
            for (int edge = 0; edge < 2; edge++) {
                boolean to = edge == 1;
                PromiseTest.promise(21);
                Check.due("come(0, " + i + ", " + to + ")", x.come(0, i, to), come[i][edge]);
                PromiseTest.promise(19);
                Check.due("claims(0, " + i + ", " + to + ")", x.claims(0, i, to), claims[i][edge]);
                PromiseTest.promise(20);
                Check.due("gaps(0, " + i + ", " + to + ")", x.gaps(0, i, to), i < 2 ? gaps[i][edge] : -2);
            }
        }
        for (int wrong : PromiseTest.wrongNumbers(-1, 2)) {
            PromiseTest.promise(19);
            Check.due("claims(0, " + wrong + ")", x.claims(0, wrong, false), -2);
            Check.due("claims(" + (wrong | 4) + ")", x.claims(wrong | 4, -1, false), -2);
            PromiseTest.promise(20);
            Check.due("gaps(0, " + wrong + ")", x.gaps(0, wrong, false), -2);
            Check.due("gaps(" + (wrong | 4) + ")", x.gaps(wrong | 4, -1, false), -2);
            PromiseTest.promise(21);
            Check.due("come(0, " + wrong + ")", x.come(0, wrong, true), -2);
            Check.due("come(" + (wrong | 4) + ")", x.come(wrong | 4, -1, true), -2);
        }
        PromiseTest.promise(19);
        Check.due("CLAIMS", x.claims(0, -1, false), 3);
        Check.due("CLAIMS, to", x.claims(0, -1, true), 3);
        PromiseTest.promise(20);
        Check.due("GAPS", x.gaps(0, -1, false), 2);
        PromiseTest.promise(21);
        Check.due("WHAT HAS COME", x.come(0, -1, false), 3);
        x.block(5, 5);
        Check.due("nothing of a NEW one", x.come(1, -1, false), 0);
        PromiseTest.promise(19);
        Check.due("nothing of a NEW one", x.claims(1, -1, false), 0);
        PromiseTest.promise(20);
        Check.due("all of a NEW one", x.gaps(1, 0, true), 5);
    }

    private static void cells(String call, int[] got, int... want) {
        for (int i = 0; i < want.length; i++) {
            Check.due(call + " " + i, got[i], want[i]);
        }
    }

    private static int[] outRow(LongCarrier x, int side, int i) {
        int[] row = new int[7];
        for (int what = 0; what < 7; what++) {
            row[what] = x.out(side, i, what);
        }
        return row;
    }

    private static int[] flightRow(LongCarrier x, int i) {
        int[] row = new int[9];
        for (int what = 0; what < 9; what++) {
            row[what] = x.flight(i, what);
        }
        return row;
    }

    private static void lines() {
        PromiseTest.promise(22);
        LongCarrier x = PromiseTest.carried(0);
        Check.due("how many", x.out(0, -1, 0), 3);
        Check.due("how many at side 1", x.out(1, -1, 0), 0);
        cells("the second", outRow(x, 0, 1), 0, 0, 1, 4, 6, 0, 0);
        for (int wrong : PromiseTest.wrongNumbers(-1, 2)) {
            Check.due("out(0, " + wrong + ", 0)", x.out(0, wrong, 0), -2);
        }
        for (int wrong : PromiseTest.wrongNumbers(0, 6)) {
            Check.due("out(0, 0, " + wrong + ")", x.out(0, 0, wrong), -2);
        }
        for (int wrong : PromiseTest.wrongNumbers(0, 1)) {
            Check.due("out(" + wrong + ", -1, 0)", x.out(wrong, -1, 0), -2);
        }
        x.window(30, 0, 2);
        x.day(4);
        Check.due("a REPORT waits", x.out(1, -1, 0), 1);
        cells("the REPORT", outRow(x, 1, 0), 1, 0, 1, 0, 1, 0b111111, 0);
        PromiseTest.promise(23);
        x = PromiseTest.carried(4);
        Check.due("how many", x.flight(-1, 0), 2);
        cells("the first", flightRow(x, 0), 0, 0, 0, 6, 10, 0, 0, 4, 1);
        cells("the second", flightRow(x, 1), 1, 0, 1, 0, 1, 0b111111, 0, 5, 0);
        for (int wrong : PromiseTest.wrongNumbers(-1, 1)) {
            Check.due("flight(" + wrong + ", 0)", x.flight(wrong, 0), -2);
        }
        for (int wrong : PromiseTest.wrongNumbers(0, 8)) {
            Check.due("flight(0, " + wrong + ")", x.flight(0, wrong), -2);
        }
        // in the order in which they were sent, though the later one comes sooner
        x = PromiseTest.carried(0);
        x.delay(20);
        x.day(1);
        x.delay(1);
        x.day(1);
        cells("the first sent", flightRow(x, 0), 0, 0, 0, 0, 4, 0, 0, 20, 1);
        cells("the next sent", flightRow(x, 1), 0, 0, 1, 4, 6, 0, 0, 2, 1);
        x.day(1);
        cells("the next has come", flightRow(x, 1), 0, 0, 0, 6, 10, 0, 0, 3, 1);
    }

    private static void timers() {
        PromiseTest.promise(24);
        LongCarrier x = PromiseTest.carried(4);
        Check.due("how many", x.timer(-1, 0), 2);
        int[][] rows = {{0, 0, 0, 1, 7, 0}, {1, 1, 0, 1, 9, 0}};
        for (int i = 0; i < 2; i++) {
            for (int what = 0; what < 6; what++) {
                Check.due("timer(" + i + ", " + what + ")", x.timer(i, what), rows[i][what]);
            }
        }
        for (int wrong : PromiseTest.wrongNumbers(-1, 1)) {
            Check.due("timer(" + wrong + ", 0)", x.timer(wrong, 0), -2);
        }
        for (int wrong : PromiseTest.wrongNumbers(0, 5)) {
            Check.due("timer(0, " + wrong + ")", x.timer(0, wrong), -2);
        }
    }

    private static void is() {
        PromiseTest.promise(25);
        LongCarrier x = new LongCarrier();
        x.block(10, 6);
        x.window(4, 0, 1);
        x.open(0);
        x.day(6);
        // two sent, at 0 (X 491, lost) and at 4 (X 30303, not)
        int[] is = {6, 25921, 2, 2, 1};
        for (int what = 0; what < is.length; what++) {
            Check.due("is(" + what + ")", x.is(what), is[what]);
        }
        for (int wrong : PromiseTest.wrongNumbers(0, 4)) {
            Check.due("is(" + wrong + ")", x.is(wrong), -2);
        }
    }

    private static void seenAndUntil() {
        LongCarrier x = new LongCarrier();
        x.day(3);
        x.window(7, 2, 4);
        PromiseTest.promise(26);
        // clocks 3; 9, 10; 16, 17; ...
        Check.due("seen(0)", x.seen(0), true);
        Check.due("seen(1)", x.seen(1), false);
        Check.due("seen(6)", x.seen(6), true);
        Check.due("seen(7)", x.seen(7), true);
        Check.due("seen(8)", x.seen(8), false);
        Check.due("seen(-1)", x.seen(-1), false);
        Check.due("seen(994)", x.seen(994), (3 + 994) % 7 == 3);
        Check.due("seen(999)", x.seen(999), (3 + 999) % 7 == 2 || (3 + 999) % 7 == 3);
        x.window(1, 0, 1);
        Check.due("seen(999)", x.seen(999), true);
        for (int wrong : PromiseTest.wrongNumbers(0, 999)) {
            Check.due("seen(" + wrong + ")", x.seen(wrong), false);
        }
        PromiseTest.promise(27);
        for (int wrong : PromiseTest.wrongNumbers(0, 60)) {
            Check.due("until(" + wrong + ")", x.until(wrong), -1);
        }
        Check.due("until(60)", x.until(60), 60);
        x.window(7, 2, 4);
        Check.due("until(0)", x.until(0), 0);
        Check.due("until(1)", x.until(1), 1);
        Check.due("until(2)", x.until(2), 7);
        Check.due("until(3)", x.until(3), 8);
        Check.due("until(4)", x.until(4), 14);
        x.window(60, 59, 60);
        Check.due("until(1)", x.until(1), 57);
        Check.due("until(60)", x.until(60), 57 + 59 * 60);
    }

    private static void book() {
        PromiseTest.promise(28);
        LongCarrier x = new LongCarrier();
        Check.due("none", x.book(-1, 0), 0);
        Check.due("none such", x.book(0, 0), -2);
        x = PromiseTest.ruled("loses 10; waits 1;");
        x.tries(9);
        x.block(3, 3);
        x.open(0);
        x.day(9);
        // opened, then lost and rung in each tick
        Check.due("how many", x.book(-1, 0), 19);
        for (int what = 0; what < 4; what++) {
            Check.due("the eldest", x.book(0, what), 0);
            Check.due("the latest", x.book(18, what), new int[] {8, 5, 0, 0}[what]);
            Check.due("ahead of it", x.book(17, what), new int[] {8, 4, 0, 0}[what]);
        }
        for (int wrong : PromiseTest.wrongNumbers(-1, 18)) {
            Check.due("book(" + wrong + ", 0)", x.book(wrong, 0), -2);
        }
        for (int wrong : PromiseTest.wrongNumbers(0, 3)) {
            Check.due("book(0, " + wrong + ")", x.book(0, wrong), -2);
        }
        x.day(5);
        // ten tries, cancelled at 9, and the cancelling is lost and rung likewise
        Check.due("the latest 25", x.book(-1, 0), 25);
        Check.due("its CLOCK", x.book(24, 0), 13);
        Check.due("its kind", x.book(24, 3), 3);
        Check.due("the eldest's CLOCK", x.book(0, 0), 2);
        Check.due("the eldest", x.book(0, 1), 4);
        Check.due("cancelled", x.book(16, 1), 2);
    }

    private static void foretold() {
        PromiseTest.promise(29);
        LongCarrier x = PromiseTest.carried(2);
        Check.due("foretold(1, 0, 5)", x.foretold(1, 0, 5), 4);
        Check.due("foretold(2, 0, 5)", x.foretold(2, 0, 5), 6);
        Check.due("foretold(3, 0, 2)", x.foretold(3, 0, 2), 1);
        Check.due("foretold(4, 0, 2)", x.foretold(4, 0, 2), 2);
        Check.due("foretold(60, 0, 5)", x.foretold(60, 0, 5), 10);
        Check.due("foretold(60, 0, 0)", x.foretold(60, 0, 0), 10);
        for (int wrong : PromiseTest.wrongNumbers(1, 60)) {
            Check.due("foretold(" + wrong + ", 0, 5)", x.foretold(wrong, 0, 5), -2);
        }
        for (int wrong : PromiseTest.wrongNumbers(0, 0)) {
            Check.due("foretold(1, " + wrong + ", 5)", x.foretold(1, wrong, 5), -2);
        }
        for (int wrong : PromiseTest.wrongNumbers(0, 8)) {
            Check.due("foretold(1, 0, " + wrong + ")", x.foretold(1, 0, wrong), -2);
        }
        Check.due("nothing is done", x.is(0), 2);
        atTheLastClock();
    }

    private static void atTheLastClock() {
        LongCarrier x = PromiseTest.quiet(10, 6);
        for (int n = 0; n < 333; n++) {
            x.day(30);
        }
        x.day(7);
        x.open(0);
        PromiseTest.promise(29);
        Check.due("two can pass", x.foretold(60, 0, 8), 6);
        Check.due("one", x.foretold(1, 0, 8), 4);
        PromiseTest.promise(30);
        Check.due("till(0), beyond 9999", x.till(0), 6);
        PromiseTest.promise(31);
        x.block(1, 1);
        Check.due("ideal(1), beyond 9999", x.ideal(1), 8);
        PromiseTest.promise(27);
        Check.due("until(60)", x.until(60), 60);
    }

    private static void till() {
        PromiseTest.promise(30);
        LongCarrier x = PromiseTest.quiet(10, 6);
        Check.due("a NEW one", x.till(0), -1);
        x.open(0);
        for (int wrong : PromiseTest.wrongNumbers(0, 0)) {
            Check.due("till(" + wrong + ")", x.till(wrong), -1);
        }
        Check.due("till(0)", x.till(0), 6);
        x.day(5);
        Check.due("till(0)", x.till(0), 1);
        x.day(1);
        Check.due("a DONE one", x.till(0), -1);
        // it ends by being CANCELLED: sent at 0, rings in the tick behind which SUN is 60
        x = PromiseTest.ruled("loses 10; waits 60;");
        x.tries(0);
        x.block(1, 1);
        x.open(0);
        Check.due("till it is CANCELLED", x.till(0), 60);
        x.tries(5);
        Check.due("six times 60", x.till(0), 360);
        x.window(10, 0, 9);
        x.tries(5);
        // 360 of SUN, nine of them in ten ticks
        Check.due("400 is the last", x.till(0), 399);
        x.window(10, 0, 8);
        Check.due("not by 400", x.till(0), -1);
        x.window(1, 0, 1);
        x.tries(6);
        Check.due("not by 400", x.till(0), -1);
        x = PromiseTest.ruled("loses 10; waits 50;");
        x.tries(7);
        x.block(1, 1);
        x.open(0);
        Check.due("400", x.till(0), 400);
        x.day(1);
        Check.due("399", x.till(0), 399);
    }

    private static void ideal() {
        PromiseTest.promise(31);
        LongCarrier x = new LongCarrier();
        x.block(10, 6);
        x.block(5, 0);
        for (int wrong : PromiseTest.wrongNumbers(0, 1)) {
            Check.due("ideal(" + wrong + ")", x.ideal(wrong), -1);
        }
        Check.due("ideal(0)", x.ideal(0), 6);
        Check.due("ideal(1), green alone", x.ideal(1), 0);
        x.delay(20);
        Check.due("ideal(0), far away", x.ideal(0), 42);
        x.delay(2);
        x.open(1);
        Check.due("behind what is OUT", x.ideal(0), 8);
        Check.due("not NEW", x.ideal(1), -1);
        Check.due("nothing is drawn", x.is(1), 491);
        Check.due("nothing is done", x.of(0, 2), 0);
        // what loses all is not asked, how long to wait is
        x = PromiseTest.ruled("loses 10; waits 1;");
        x.tries(0);
        x.block(3, 3);
        Check.due("CANCELLED by its TIMER", x.ideal(0), 1);
        x.tries(9);
        Check.due("DONE", x.ideal(0), 5);
        x.open(0);
        x.block(3, 3);
        Check.due("till it is lost for good", x.till(0), 10);
        x.window(60, 10, 11);
        // sent at 70, its REPORT behind that of BLOCK 0 at 190, which comes at 192
        Check.due("seldom seen", x.ideal(1), 193);
    }

    private static void whole() {
        PromiseTest.promise(32);
        LongCarrier x = PromiseTest.quiet(10, 6);
        x.block(3, 0);
        Check.due("whole(0)", x.whole(0), false);
        Check.due("whole(1), without RED", x.whole(1), true);
        for (int wrong : PromiseTest.wrongNumbers(0, 1)) {
            Check.due("whole(" + wrong + ")", x.whole(wrong), false);
        }
        x.open(0);
        x.day(3);
        Check.due("four have come", x.whole(0), false);
        x.day(1);
        Check.due("six have come", x.whole(0), true);
    }

    private static void nextAndRound() {
        PromiseTest.promise(41);
        LongCarrier x = PromiseTest.quiet(4, 4);
        x.window(9, 4, 6);
        Check.due("nothing is OUT", x.next(0), -1);
        x.open(0);
        Check.due("next(0)", x.next(0), 4);
        Check.due("next(1)", x.next(1), -1);
        for (int wrong : PromiseTest.wrongNumbers(0, 1)) {
            Check.due("next(" + wrong + ")", x.next(wrong), -1);
        }
        x.day(4);
        Check.due("next(0)", x.next(0), 0);
        x.delay(3);
        x.day(4);
        Check.due("next(1), its REPORT", x.next(1), 5);
        for (int wrong : PromiseTest.wrongNumbers(0, 1)) {
            Check.due("next(" + wrong + ")", x.next(wrong), -1);
        }
        PromiseTest.promise(42);
        // from 8: seen at 13, there at 16, seen at 22, back at 25
        Check.due("round", x.round(), 17);
        x.delay(1);
        // seen at 13, there at 14, seen at 14, back at 15
        Check.due("round", x.round(), 7);
        x.delay(20);
        // seen at 13, there at 33, seen at 40, back at 60
        Check.due("round", x.round(), 52);
        x.window(1, 0, 1);
        Check.due("round", x.round(), 40);
    }

    private static void rings() {
        PromiseTest.promise(43);
        LongCarrier x = PromiseTest.carried(4);
        Check.due("rings(0)", x.rings(0), 3);
        Check.due("rings(1)", x.rings(1), 5);
        for (int wrong : PromiseTest.wrongNumbers(0, 1)) {
            Check.due("rings(" + wrong + ")", x.rings(wrong), -1);
        }
        x.window(10, 0, 2);
        // SUN is 4 at CLOCK 4: the third and the fifth that is seen are 20 and 30
        Check.due("rings(0)", x.rings(0), 17);
        Check.due("rings(1)", x.rings(1), 27);
    }

    private static void resentAndIdle() {
        PromiseTest.promise(45);
        LongCarrier x = PromiseTest.ruled("loses 10; waits 1;");
        x.block(5, 5);
        for (int wrong : PromiseTest.wrongNumbers(0, 0)) {
            Check.due("resent(" + wrong + ")", x.resent(wrong), -1);
        }
        Check.due("resent(0)", x.resent(0), 0);
        x.size(5);
        x.open(0);
        x.day(1);
        Check.due("resent(0)", x.resent(0), 0);
        x.day(1);
        Check.due("resent(0)", x.resent(0), 5);
        PromiseTest.promise(46);
        x = PromiseTest.quiet(10, 6);
        Check.due("idle", x.idle(), true);
        x.open(0);
        Check.due("OUT", x.idle(), false);
        x.day(3);
        Check.due("nothing OUT, but IN FLIGHT", x.idle(), false);
        x.day(4);
        Check.due("not yet", x.idle(), false);
        x.day(1);
        Check.due("idle", x.idle(), true);
        x = PromiseTest.ruled("loses 10; waits 9;");
        x.block(4, 4);
        x.open(0);
        x.day(1);
        Check.due("but a TIMER", x.idle(), false);
        x = PromiseTest.quiet(4, 4);
        x.window(60, 0, 1);
        x.open(0);
        x.day(4);
        Check.due("OUT at side 1", x.idle(), false);
    }

    private static void live() {
        PromiseTest.promise(47);
        LongCarrier x = PromiseTest.quiet(10, 6);
        x.block(4, 4);
        x.block(4, 0);
        Check.due("live", x.live(), 0);
        x.open(1);
        Check.due("live", x.live(), 2);
        x.open(2);
        Check.due("DONE isn't", x.live(), 2);
        x.open(0);
        Check.due("live", x.live(), 3);
        x.cancel(0, 1);
        Check.due("CANCELLED at side 1 isn't", x.live(), 2);
        x.cancel(1, 0);
        Check.due("CANCELLED at side 0 isn't", x.live(), 0);
    }

    private static void soonestAndBusiest() {
        PromiseTest.promise(52);
        LongCarrier x = PromiseTest.carried(0);
        Check.due("none", x.soonest(), -1);
        x.delay(20);
        x.day(1);
        Check.due("soonest", x.soonest(), 20);
        x.delay(3);
        x.day(1);
        Check.due("the later one", x.soonest(), 4);
        PromiseTest.promise(53);
        x = PromiseTest.quiet(10, 6);
        x.block(16, 16);
        x.block(12, 12);
        Check.due("none", x.busiest(), -1);
        x.open(2);
        Check.due("busiest", x.busiest(), 2);
        x.open(0);
        Check.due("of like ones the lowest", x.busiest(), 0);
        x.open(1);
        Check.due("busiest", x.busiest(), 1);
        x.day(3);
        Check.due("IN FLIGHT counts, what has come doesn't", x.busiest(), 1);
        x.cancel(1, 0);
        Check.due("of like ones the lowest", x.busiest(), 0);
    }

    private static void honestAndLedger() {
        PromiseTest.promise(54);
        LongCarrier x = PromiseTest.carried(0);
        for (int n = 0; n < 9; n++) {
            Check.due("honest", x.honest(), true);
            x.day(1);
        }
        PromiseTest.promise(55);
        x = PromiseTest.ruled("loses 10; waits 1;");
        x.tries(2);
        x.block(4, 4);
        x.block(4, 0);
        x.block(4, 4);
        x.open(0);
        x.day(3);
        x.open(1);
        x.open(2);
        x.cancel(2, 1);
        int[] ledger = {3, 1, 1, 1, 3, 3};
        for (int what = 0; what < ledger.length; what++) {
            Check.due("ledger(" + what + ")", x.ledger(what), ledger[what]);
        }
        for (int wrong : PromiseTest.wrongNumbers(0, 5)) {
            Check.due("ledger(" + wrong + ")", x.ledger(wrong), -2);
        }
    }

    /** What only asks leaves all as it was. */
    private static void nothingChanges() {
        PromiseTest.promise(30);
        LongCarrier x = PromiseTest.carried(3);
        LongCarrier y = PromiseTest.carried(3);
        x.block(3, 3);
        y.block(3, 3);
        y.till(0);
        y.ideal(1);
        y.foretold(60, 0, 2);
        y.whose();
        y.odds(1, true);
        for (int n = 0; n < 9; n++) {
            for (int what = 0; what < 9; what++) {
                Check.due("of", y.of(0, what), x.of(0, what));
                Check.due("is", y.is(what), x.is(what));
                Check.due("about", y.about(what), x.about(what));
            }
            x.day(1);
            y.day(1);
        }
    }
}
