/** Promises 12 to 17: opening, cancelling, ticks, scripts, years, steps taken back; and what comes of a tick. */
final class StepPromises {
    private StepPromises() {
    }

    static void run() {
        open();
        openWithoutRoom();
        cancel();
        cancelBothWays();
        day();
        tickByTick();
        losses();
        ringing();
        triedOut();
        hidden();
        latestCheckpoint();
        doneByAnEarlierCheckpoint();
        linesAndTimersAreFull();
        played();
        playedToTheEnd();
        years();
        undo();
    }

    private static void message(LongCarrier x, int side, int i, int... cells) {
        for (int what = 0; what < cells.length; what++) {
            Check.due("out(" + side + ", " + i + ", " + what + ")", x.out(side, i, what), cells[what]);
        }
    }

    private static void note(LongCarrier x, int i, int... cells) {
        for (int what = 0; what < 4; what++) {
            Check.due("book(" + i + ", " + what + ")", x.book(i, what), cells[what]);
        }
    }

    private static void open() {
        PromiseTest.promise(12);
        LongCarrier x = PromiseTest.quiet(10, 6);
        x.block(5, 0);
        x.block(4, 4);
        for (int wrong : PromiseTest.wrongNumbers(0, 2)) {
            Check.due("open(" + wrong + ")", x.open(wrong), -1);
        }
        Check.due("open(0)", x.open(0), 3);
        Check.due("open(0) again", x.open(0), -1);
        message(x, 0, 0, 0, 0, 0, 0, 4, 0, 0);
        message(x, 0, 1, 0, 0, 1, 4, 6, 0, 0);
        message(x, 0, 2, 0, 0, 0, 6, 10, 0, 0);
        Check.due("OPEN", x.of(0, 2), 1);
        Check.due("open(1), green alone", x.open(1), 2);
        message(x, 0, 3, 0, 1, 0, 0, 4, 0, 0);
        message(x, 0, 4, 0, 1, 0, 4, 5, 0, 0);
        Check.due("DONE at once", x.of(1, 2), 2);
        Check.due("CHECKPOINTS", x.of(1, 6), 0);
        Check.due("open(1) again", x.open(1), -1);
        Check.due("open(2), red alone", x.open(2), 1);
        message(x, 0, 5, 0, 2, 1, 0, 4, 0, 0);
        Check.due("lines of the book", x.book(-1, 0), 4);
        note(x, 1, 0, 0, 1, 0);
        note(x, 2, 0, 1, 1, 0);
        note(x, 3, 0, 0, 2, 0);
        Check.due("steps", x.about(3), 3);
    }

    private static void openWithoutRoom() {
        PromiseTest.promise(12);
        LongCarrier x = PromiseTest.crowded("loses 0;");
        Check.due("open(0)", x.open(0), 24);
        Check.due("its CHECKPOINT is one though", x.of(0, 6), 1);
        Check.due("the last has no serial", x.out(0, 23, 2), 0);
        Check.due("open(1)", x.open(1), 0);
        Check.due("OPEN", x.of(1, 2), 1);
        x.day(10);
        Check.due("open(2)", x.open(2), 10);
    }

    private static void cancel() {
        PromiseTest.promise(13);
        LongCarrier x = PromiseTest.quiet(10, 6);
        Check.due("a NEW one", x.cancel(0, 0), false);
        Check.due("a NEW one by side 1", x.cancel(0, 1), false);
        x.open(0);
        for (int wrong : PromiseTest.wrongNumbers(0, 1)) {
            Check.due("cancel(0, " + wrong + ")", x.cancel(0, wrong), false);
        }
        for (int wrong : PromiseTest.wrongNumbers(0, 0)) {
            Check.due("cancel(" + wrong + ", 0)", x.cancel(wrong, 0), false);
        }
        Check.due("steps", x.about(3), 1);
        x.day(2);
        Check.due("a TIMER", x.timer(-1, 0), 1);
        Check.due("cancel(0, 0)", x.cancel(0, 0), true);
        Check.due("it is gone", x.timer(-1, 0), 0);
        Check.due("what was OUT, too", x.out(0, -1, 0), 1);
        message(x, 0, 0, 3, 0, 0, 0, 0, 0, 0);
        Check.due("at side 0", x.of(0, 2), 3);
        Check.due("at side 1", x.of(0, 3), 0);
        note(x, 1, 2, 2, 0, 0);
        Check.due("again", x.cancel(0, 0), false);
        Check.due("by side 1, being CANCELLED", x.cancel(0, 1), false);
        x.day(1);
        Check.due("its TIMER's kind", x.timer(0, 1), 3);
        Check.due("its TIMER's SUN", x.timer(0, 4), 8);
        x.day(1);
        Check.due("still in flight", x.of(0, 3), 0);
        Check.due("the CHECKPOINT came ahead", x.of(0, 5), 6);
        Check.due("its REPORT is sent", x.flight(1, 0), 1);
        x.day(1);
        Check.due("it has come", x.of(0, 3), 3);
        Check.due("TIMERS of side 1 are gone", x.timer(-1, 0), 1);
        Check.due("an answer is sent", x.flight(1, 0), 4);
        Check.due("got is not written down", x.book(-1, 0), 2);
        x.day(2);
        Check.due("the TIMER is gone", x.timer(-1, 0), 0);
        x.day(1);
        Check.due("a REPORT is answered all the same", x.is(3), 6);
        Check.due("nothing is CLAIMED", x.of(0, 4), 0);
        Check.due("a DONE one", PromiseTest.carried(9).cancel(0, 1), false);
    }

    private static void cancelBothWays() {
        PromiseTest.promise(13);
        LongCarrier x = PromiseTest.carried(4);
        Check.due("a TIMER of side 1", x.timer(1, 0), 1);
        Check.due("by side 1", x.cancel(0, 1), true);
        Check.due("again", x.cancel(0, 1), false);
        Check.due("side 0 is OPEN", x.of(0, 2), 1);
        Check.due("side 0 keeps its TIMER", x.timer(-1, 0), 1);
        note(x, 1, 4, 3, 0, 0);
        Check.due("by side 0, too", x.cancel(0, 0), true);
        note(x, 2, 4, 2, 0, 0);
        Check.due("no TIMER", x.timer(-1, 0), 0);
        message(x, 0, 0, 3, 0, 0);
        message(x, 1, 0, 3, 0, 0);
        x.day(1);
        Check.due("green came ahead, but isn't taken", x.of(0, 5), 6);
        Check.due("a TIMER each", x.timer(-1, 0), 2);
        x.day(2);
        Check.due("side 1 forgets its own", x.timer(-1, 0), 1);
        Check.due("side 0 keeps its own", x.timer(0, 0), 0);
        x.day(2);
        Check.due("answered", x.timer(-1, 0), 0);
        Check.due("idle", x.idle(), true);
        // what side 1 has OUT when it is told: its own cancelling is gone, the answer stays
        x = PromiseTest.carried(1);
        x.cancel(0, 0);
        x.day(2);
        x.window(60, 59, 60);
        x.cancel(0, 1);
        Check.due("not of one CANCELLED", x.of(0, 3), 0);
        // side 1 alone
        x = PromiseTest.carried(1);
        x.cancel(0, 1);
        x.day(3);
        Check.due("side 0 is CANCELLED", x.of(0, 2), 3);
        Check.due("nothing has come", x.of(0, 5), 0);
        Check.due("its TIMERS are gone", x.timer(-1, 0), 1);
        Check.due("it is side 1's", x.timer(0, 0), 1);
        x.day(2);
        Check.due("answered", x.timer(-1, 0), 0);
        Check.due("lines of the book", x.book(-1, 0), 2);
    }

    private static void day() {
        PromiseTest.promise(14);
        LongCarrier x = PromiseTest.carried(0);
        for (int wrong : PromiseTest.wrongNumbers(1, 30)) {
            Check.due("day(" + wrong + ")", x.day(wrong), -1);
        }
        Check.due("CLOCK", x.is(0), 0);
        Check.due("day(5)", x.day(5), 4);
        Check.due("steps", x.about(3), 6);
        Check.due("day(30)", x.day(30), 1);
        Check.due("steps", x.about(3), 30);
        for (int n = 0; n < 332; n++) {
            x.day(30);
        }
        Check.due("CLOCK", x.is(0), 9995);
        Check.due("day(5), beyond", x.day(5), -1);
        Check.due("nothing is done", x.is(0), 9995);
        Check.due("day(4)", x.day(4), 0);
        Check.due("CLOCK", x.is(0), 9999);
        Check.due("day(1)", x.day(1), -1);
        Check.due("SUN", x.is(2), 9999);
    }

    private static void tickByTick() {
        PromiseTest.promise(14);
        int[] sent = {1, 2, 3, 4, 4, 5, 5, 5};
        int[] come = {0, 0, 4, 6, 10, 10, 10, 10};
        int[] claimed = {0, 0, 0, 0, 0, 6, 6, 6};
        int[] flying = {1, 2, 2, 2, 1, 1, 1, 0};
        int[] timers = {0, 1, 1, 2, 2, 1, 1, 0};
        LongCarrier x = PromiseTest.carried(0);
        for (int tick = 0; tick < 8; tick++) {
            Check.due("sent in tick " + tick, x.day(1), sent[tick] - (tick == 0 ? 0 : sent[tick - 1]));
            Check.due("come behind tick " + tick, x.of(0, 5), come[tick]);
            Check.due("claimed behind tick " + tick, x.of(0, 4), claimed[tick]);
            Check.due("in flight behind tick " + tick, x.flight(-1, 0), flying[tick]);
            Check.due("timers behind tick " + tick, x.timer(-1, 0), timers[tick]);
        }
        Check.due("REPORTS", x.of(0, 7), 1);
        note(x, 1, 5, 1, 0, 0);
        // X is drawn once a MESSAGE, however little is lost
        int drawn = 491;
        for (int n = 0; n < 5; n++) {
            drawn = (drawn * 757 + 617) % 31091;
        }
        Check.due("X", x.is(1), drawn);
    }

    private static void losses() {
        PromiseTest.promise(14);
        // 491 is drawn: 1 of 10
        LongCarrier x = PromiseTest.ruled("loses 1;");
        x.block(4, 4);
        x.open(0);
        x.day(1);
        Check.due("not below 1", x.is(4), 0);
        x = PromiseTest.ruled("loses 2;");
        x.block(4, 4);
        x.open(0);
        x.day(1);
        Check.due("below 2", x.is(4), 1);
        Check.due("nothing in flight", x.flight(-1, 0), 0);
        Check.due("its TIMER starts", x.timer(-1, 0), 1);
        Check.due("its bytes were sent", x.of(0, 8), 4);
        note(x, 1, 0, 4, 0, 0);
        x = PromiseTest.ruled("loses bytes - 3;");
        x.block(5, 0);
        x.open(0);
        x.day(1);
        Check.due("four bytes, below 1", x.is(4), 0);
        x = PromiseTest.ruled("loses bytes - 2;");
        x.block(5, 0);
        x.open(0);
        x.day(1);
        Check.due("four bytes, below 2", x.is(4), 1);
        // none without a law: 2 of 10
        x = new LongCarrier();
        x.block(4, 0);
        x.open(0);
        x.day(1);
        Check.due("without a TEXT", x.is(4), 1);
        Check.due("green starts no TIMER", x.timer(-1, 0), 0);
    }

    private static void ringing() {
        PromiseTest.promise(14);
        LongCarrier x = PromiseTest.ruled("loses 10; waits 2 + 3 * tried;");
        x.block(4, 4);
        x.open(0);
        x.day(1);
        Check.due("it rings at", x.timer(0, 4), 2);
        x.day(1);
        Check.due("it has rung", x.timer(-1, 0), 0);
        message(x, 0, 0, 0, 0, 1, 0, 4, 0, 1);
        note(x, 2, 1, 5, 0, 0);
        Check.due("CHECKPOINTS", x.of(0, 6), 1);
        x.day(1);
        Check.due("tried", x.timer(0, 5), 1);
        Check.due("it rings at", x.timer(0, 4), 7);
        x.day(4);
        Check.due("not yet", x.timer(-1, 0), 0);
        message(x, 0, 0, 0, 0, 1, 0, 4, 0, 2);
        x.day(1);
        Check.due("it rings at", x.timer(0, 4), 15);
        Check.due("bytes sent", x.of(0, 8), 12);
    }

    private static void triedOut() {
        PromiseTest.promise(14);
        LongCarrier x = PromiseTest.ruled("loses 10; waits 1;");
        x.tries(2);
        x.block(4, 4);
        x.open(0);
        x.day(2);
        Check.due("OPEN", x.of(0, 2), 1);
        x.day(1);
        Check.due("CANCELLED", x.of(0, 2), 3);
        Check.due("lines", x.book(-1, 0), 8);
        note(x, 6, 2, 5, 0, 0);
        note(x, 7, 2, 2, 0, 0);
        message(x, 0, 0, 3, 0, 0, 0, 0, 0, 0);
        x.day(1);
        message(x, 0, 0, 3, 0, 0, 0, 0, 0, 1);
        x.day(2);
        Check.due("a cancelling ends", x.idle(), true);
        note(x, 13, 5, 5, 0, 3);
        Check.due("lines", x.book(-1, 0), 14);
        // side 1 tires of a REPORT
        x = PromiseTest.ruled("loses if kind = 1 then 10 else 0 end; waits if kind = 1 then 1 else 50 end;");
        x.tries(0);
        x.block(4, 4);
        x.open(0);
        x.day(3);
        Check.due("CANCELLED by side 1", x.of(0, 3), 3);
        Check.due("not by side 0", x.of(0, 2), 1);
        note(x, 2, 2, 5, 0, 1);
        note(x, 3, 2, 3, 0, 0);
        // of a DONE one nothing more comes of it: the answer is lost, the TIMER rings
        x = PromiseTest.ruled("loses if kind = 2 then 10 else 0 end; waits 20;");
        x.tries(0);
        x.block(4, 4);
        x.open(0);
        x.day(23);
        Check.due("DONE", x.of(0, 2), 2);
        Check.due("not CANCELLED", x.of(0, 3), 0);
        Check.due("rung", x.ledger(5), 1);
        Check.due("idle", x.idle(), true);
    }

    private static void hidden() {
        PromiseTest.promise(14);
        LongCarrier x = PromiseTest.quiet(4, 4);
        x.window(5, 0, 1);
        x.open(0);
        x.day(1);
        Check.due("SUN", x.is(2), 1);
        x.day(1);
        Check.due("nothing is sent", x.is(3), 1);
        x.day(1);
        Check.due("it comes though they're hidden", x.of(0, 5), 4);
        Check.due("its REPORT waits", x.out(1, 0, 0), 1);
        x.day(2);
        Check.due("SUN stands", x.is(2), 1);
        x.day(1);
        Check.due("the REPORT is sent", x.is(3), 2);
        Check.due("SUN", x.is(2), 2);
        Check.due("TIMERS", x.timer(-1, 0), 2);
        Check.due("it rings at", x.timer(1, 4), 7);
    }

    private static void latestCheckpoint() {
        PromiseTest.promise(14);
        // the first two pieces are lost, so the first REPORT has gaps
        LongCarrier x = PromiseTest.ruled("loses if clock < 2 then 10 else 0 end; waits 60;");
        x.size(2);
        x.block(6, 6);
        x.open(0);
        x.day(5);
        Check.due("nothing is OUT", x.out(0, -1, 0), 0);
        Check.due("CLAIMED", x.of(0, 4), 0);
        Check.due("its claims", x.flight(0, 5), 0b110000);
        x.day(2);
        Check.due("CLAIMED", x.of(0, 4), 2);
        Check.due("CHECKPOINTS", x.of(0, 6), 2);
        Check.due("the answer is on its way", x.flight(0, 0), 2);
        message(x, 0, 0, 0, 0, 0, 0, 2, 0, 0);
        message(x, 0, 1, 0, 0, 2, 2, 4, 0, 0);
        Check.due("no TIMER of the first", x.timer(0, 0), 1);
        x.day(6);
        Check.due("DONE", x.of(0, 2), 2);
        Check.due("REPORTS", x.of(0, 7), 2);
        Check.due("its claims are all", x.of(0, 4), 6);
        Check.due("bytes sent", x.of(0, 8), 10);
        // a REPORT of a CHECKPOINT that isn't the latest puts nothing OUT: the first comes time and again
        x = PromiseTest.ruled("loses if clock = 0 then 10 else 0 end; waits 1;");
        x.size(2);
        x.tries(9);
        x.block(4, 4);
        x.open(0);
        x.day(2);
        Check.due("the CHECKPOINT again", x.out(0, 0, 6), 1);
        x.day(5);
        Check.due("two CHECKPOINTS", x.of(0, 6), 2);
        Check.due("more REPORTS", x.of(0, 7), 4);
    }

    /** CHECKPOINT 1 comes again, late, when all has come; 2 has no REPORT, as that is lost, and is still waited for. */
    private static void doneByAnEarlierCheckpoint() {
        PromiseTest.promise(14);
        for (int waits : new int[] {50, 8}) {
            LongCarrier x = PromiseTest.ruled("loses if clock = 0 or clock = 6 then 10 else 0 end;"
                + "waits if clock = 1 then 1 else if clock = 5 then " + waits + " else 50 end end;");
            x.size(2);
            x.block(4, 4);
            x.block(20, 0);
            x.open(0);
            x.day(2);
            x.delay(12);
            x.day(1);
            Check.due("CHECKPOINT 1 again, far off", x.flight(1, 7), 14);
            x.delay(1);
            x.day(4);
            Check.due("CHECKPOINTS", x.of(0, 6), 2);
            Check.due("WHOLE", x.whole(0), true);
            Check.due("its REPORT is lost", x.book(-1, 0), 4);
            x.size(1);
            x.open(1);
            x.day(8);
            Check.due("OPEN", x.of(0, 2), 1);
            Check.due("TIMERS", x.timer(-1, 0), waits == 50 ? 3 : 2);
            Check.due("OUT", x.out(0, -1, 0), waits == 50 ? 12 : 13);
            x.day(1);
            Check.due("DONE", x.of(0, 2), 2);
            Check.due("TIMERS of side 1 alone", x.timer(-1, 0), 2);
            Check.due("TIMERS of side 1 alone", x.timer(0, 0) + x.timer(1, 0), 2);
            Check.due("OUT, an answer more, no CHECKPOINT", x.out(0, -1, 0), 12);
            Check.due("the last is the answer", x.out(0, 11, 0), 2);
            Check.due("ahead of it green", x.out(0, 10, 1), 1);
        }
    }

    private static void linesAndTimersAreFull() {
        PromiseTest.promise(14);
        LongCarrier x = PromiseTest.ruled("loses if kind = 1 then 10 else 0 end; waits if kind = 0 then 1 else 60 end;");
        x.tries(9);
        for (int block = 0; block < 3; block++) {
            x.block(1, 1);
            x.open(block);
        }
        x.day(16);
        Check.due("a TIMER for each REPORT", x.timer(-1, 0), 14);
        // side 0 starts one a tick, that rings in it: with it there are 16
        x.day(1);
        Check.due("15 of them", x.timer(-1, 0), 15);
        x.day(1);
        Check.due("none more starts", x.timer(-1, 0), 15);
        Check.due("REPORTS go on", x.of(0, 7) + x.of(1, 7) + x.of(2, 7), 16);
        x.day(6);
        Check.due("REPORTS go on", x.of(0, 7) + x.of(1, 7) + x.of(2, 7), 22);
        Check.due("none more starts", x.timer(-1, 0), 15);
    }

    private static void played() {
        PromiseTest.promise(15);
        LongCarrier x = new LongCarrier();
        for (int wrong : PromiseTest.wrongNumbers(0, -1)) {
            Check.due("played(" + wrong + ")", x.played(wrong), -2);
        }
        Check.text(x, "block 6 of 10; loses 0; open 0; day 3; waits 9; cancel 0 by 1; day 1;");
        Check.due("played(0)", x.played(0), -1);
        Check.due("the law isn't told by it", x.about(2), -1);
        Check.due("LENGTH", x.of(0, 0), 10);
        Check.due("RED", x.of(0, 1), 6);
        Check.due("CANCELLED by side 1", x.of(0, 3), 3);
        Check.due("CLOCK", x.is(0), 4);
        Check.due("steps, each its own", x.about(3), 6);
        Check.due("played(0) again: one more BLOCK, 0 isn't NEW", x.played(0), 2);
        Check.due("what was done stays", x.about(0), 2);
        Check.due("CLOCK", x.is(0), 4);
        Check.text(x, "day 2; loses 1; cancel 0 by 1; day 9;");
        Check.due("played(1)", x.played(1), 2);
        Check.due("CLOCK", x.is(0), 6);
        Check.text(x, "block 0 of 1; waits 1; block 0 of 1; day 1;");
        Check.due("played(2)", x.played(2), 2);
        Check.due("BLOCKS", x.about(0), 3);
        Check.text(x, "");
        Check.due("played(3), nothing", x.played(3), -1);
        Check.due("played(4)", x.played(4), -2);
    }

    private static void playedToTheEnd() {
        PromiseTest.promise(15);
        LongCarrier x = new LongCarrier();
        for (int n = 0; n < 333; n++) {
            x.day(30);
        }
        Check.text(x, "loses 1; day 4; day 6; day 1;");
        Check.due("played(0)", x.played(0), 2);
        Check.due("those that can pass do", x.is(0), 9999);
        Check.due("played(0) at 9999", x.played(0), 1);
        x.undo();
        Check.due("CLOCK", x.is(0), 9998);
        Check.text(x, "day 1;");
        Check.due("up to 9999", x.played(1), -1);
        Check.due("not beyond", x.played(1), 0);
    }

    private static void years() {
        PromiseTest.promise(16);
        LongCarrier x = new LongCarrier();
        for (int wrong : PromiseTest.wrongNumbers(0, 9999)) {
            Check.due("years(" + wrong + ", 1)", x.years(wrong, 1), -1);
        }
        for (int wrong : PromiseTest.wrongNumbers(1, 40)) {
            Check.due("years(0, " + wrong + ")", x.years(0, wrong), -1);
        }
        Check.due("nothing is done", x.is(1), 491);
        // 491: 3 of 8, a tick; 30303: 7 of 8, a tick; 25921: 1 of 8, no BLOCK 0
        Check.due("years(0, 1)", x.years(0, 1), 1);
        Check.due("X", x.is(1), 30303);
        Check.due("years(0, 3)", x.years(0, 3), 3);
        Check.due("one step each", x.about(3), 2);
        Check.due("seed 9999", x.years(9999, 1) >= 3, true);
        Check.due("X of it", x.is(1), (20489 * 757 + 617) % 31091);
        yearsOfOneDraw();
        yearsAtTheEnd();
    }

    /** A seed for each sort of draw, found by what the document says of x. */
    private static void yearsOfOneDraw() {
        boolean[] met = new boolean[12];
        for (int seed = 0; seed < 10000; seed++) {
            int x = seed * 2 + 491;
            int sort = x % 8 == 0 ? x / 8 % 3 : x % 8 == 1 ? 3 + x / 8 % 3 + 3 * (x / 16 % 2) : 9;
            if (x % 8 == 1 && x % 3 != 0) {
                sort = 10;
            }
            if (met[sort]) {
                continue;
            }
            met[sort] = true;
            LongCarrier c = new LongCarrier();
            c.block(3, 3);
            c.block(3, 3);
            c.block(3, 3);
            if (sort >= 3) {
                c.open(0);
                c.open(1);
                c.open(2);
            }
            Check.due("seed " + seed, c.years(seed, 1), sort == 9 ? 1 : 0);
            int block = x / 8 % 3;
            int side = x / 16 % 2;
            if (x % 8 == 0) {
                Check.due("seed " + seed + " opens", c.of(block, 2), 1);
            } else if (x % 8 == 1) {
                Check.due("seed " + seed + " cancels", c.of(block, 2 + side) == 3, x % 3 == 0);
            }
            if (x % 8 < 2) {
                Check.due("lines by seed " + seed, c.book(-1, 0) - (sort >= 3 ? 3 : 0), sort == 10 ? 0 : 1);
            }
        }
        // the first x is odd, so none opens by it; and 8 q + 1 is a multiple of 3 for BLOCK 1 alone
        for (int sort : new int[] {4, 7, 9, 10}) {
            Check.due("met " + sort, met[sort], true);
        }
        openedByYears();
    }

    private static void openedByYears() {
        // one draw on x may be even: the first seed whose second draw opens BLOCK 0
        for (int seed = 0; seed < 10000; seed++) {
            int first = seed * 2 + 491;
            int second = (first * 757 + 617) % 31091;
            if (first % 8 > 1 && second % 8 == 0 && second / 8 % 3 == 0) {
                LongCarrier c = new LongCarrier();
                Check.due("no BLOCK to open, seed " + seed, c.years(seed, 2), 1);
                Check.due("no line", c.book(-1, 0), 0);
                c.back();
                c.block(3, 3);
                c.block(3, 3);
                Check.due("seed " + seed, c.years(seed, 2), 1);
                Check.due("opened at 1", c.book(0, 0), 1);
                Check.due("BLOCK 0 is OPEN", c.of(0, 2), 1);
                Check.due("BLOCK 1 is NEW", c.of(1, 2), 0);
                Check.due("one step", c.undo(), 0);
                Check.due("BLOCK 0 is NEW", c.of(0, 2), 0);
                Check.due("CLOCK", c.is(0), 0);
                return;
            }
        }
    }

    private static void yearsAtTheEnd() {
        LongCarrier x = new LongCarrier();
        for (int n = 0; n < 333; n++) {
            x.day(30);
        }
        x.day(8);
        Check.due("years at 9998", x.years(0, 2), 9999);
        Check.due("years at 9999", x.years(0, 40), 9999);
        Check.due("X goes on", x.is(1) != 491, true);
    }

    private static void undo() {
        PromiseTest.promise(17);
        LongCarrier x = PromiseTest.carried(6);
        Check.due("steps", x.about(3), 7);
        x.delay(9);
        x.size(9);
        x.tries(9);
        x.window(9, 0, 9);
        x.block(4, 4);
        x.said(1, 1);
        Check.text(x, "loses 3;");
        x.by(1);
        Check.due("undo", x.undo(), 6);
        Check.due("not DONE", x.of(0, 2), 1);
        Check.due("its line is gone", x.book(-1, 0), 1);
        Check.due("its X", x.is(3), 4);
        Check.due("a TIMER is back", x.timer(-1, 0), 2);
        int[] about = {2, 2, 1, 6, 1, 0, 9, 9, 9};
        for (int what = 0; what < about.length; what++) {
            Check.due("what is told stays, " + what, x.about(what), about[what]);
        }
        Check.due("the BLOCK told since is NEW", x.of(1, 2), 0);
        for (int left = 5; left >= 0; left--) {
            Check.due("undo", x.undo(), left);
        }
        Check.due("NEW", x.of(0, 2), 0);
        Check.due("X", x.is(1), 491);
        Check.due("undo, there being none", x.undo(), -1);
        x.open(1);
        Check.due("a refused one is no step", x.open(1), -1);
        Check.due("nor is that", x.cancel(0, 0), false);
        Check.due("steps", x.about(3), 1);
        x.cancel(1, 0);
        Check.due("undo", x.undo(), 1);
        Check.due("OPEN", x.of(1, 2), 1);
        x.day(30);
        Check.due("30 at most", x.about(3), 30);
        x.day(3);
        Check.due("undo", x.undo(), 29);
        for (int left = 28; left >= 0; left--) {
            Check.due("undo", x.undo(), left);
        }
        Check.due("CLOCK", x.is(0), 3);
        Check.due("undo, there being none", x.undo(), -1);
    }
}
