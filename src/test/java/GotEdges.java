/** The edges of what is GOT (part I), of what is written down, and of STEPS. */
final class GotEdges {
    private GotEdges() {
    }

    static void run() {
        dataAndReports();
        dataWhenCancelled();
        aReportAnswered();
        aReportTakesItsCheckpoint();
        aReportWhenNotOpen();
        claimsAddUp();
        claimsOfAnEarlierReport();
        doneAtTheLastByte();
        theLatestCheckpoint();
        doneTakesItsCheckpoints();
        answerToAReport();
        answerToOneOfTwoReports();
        cancellingAtSideZero();
        cancellingAtSideOne();
        answerToACancelling();
        writtenDown();
        gotIsNotWrittenDown();
        thirtySteps();
        aStepEach();
        toldStays();
        toldSinceIsNew();
        yearsAreOneStep();
    }

    private static void dataAndReports() {
        Edge.sentence("I: GOT: data: its bytes have COME; a CHECKPOINT: a REPORT (one more) of it is put OUT at side 1");
        LongCarrier x = PromiseTest.quiet(6, 4);
        x.size(2);
        x.open(0);
        x.day(3);
        Check.due("from", x.come(0, 0, false), 0);
        Check.due("to", x.come(0, 0, true), 2);
        Check.due("no REPORT of what is no CHECKPOINT", x.of(0, 7), 0);
        x.day(1);
        Check.due("to", x.come(0, 0, true), 4);
        Check.due("a REPORT", x.of(0, 7), 1);
        x.day(1);
        Check.due("green, too", x.come(0, 0, true), 6);
        Check.due("no REPORT of green", x.of(0, 7), 1);
        Edge.sentence("I: CLAIMS: RED bytes that have COME");
        x = PromiseTest.ruled("loses if clock = 0 then 10 else 0 end; waits 60;");
        x.size(1);
        x.block(3, 3);
        x.open(0);
        x.day(5);
        Edge.flight(x, 0, 1, 0, 1, 0, 1, 0b110, 0, 6, 0);
    }

    private static void dataWhenCancelled() {
        Edge.sentence("I: GOT: data, not CANCELLED at side 1");
        LongCarrier x = PromiseTest.quiet(4, 4);
        x.block(1, 1);
        x.size(2);
        x.open(0);
        x.open(1);
        x.day(3);
        x.window(60, 59, 60);
        x.cancel(0, 1);
        x.day(2);
        Edge.of(x, 0, 4, 4, 1, 3, 0, 2, 1, 0, 4);
        Check.due("the other BLOCK's has come", x.of(1, 5), 1);
        Check.due("a cancelling and the other BLOCK's REPORT", x.out(1, -1, 0), 2);
        Edge.out(x, 1, 1, 1, 1, 1);
        // CANCELLED at side 0 alone: it comes, and is reported
        x = PromiseTest.quiet(4, 4);
        x.open(0);
        x.day(1);
        x.cancel(0, 0);
        x.window(60, 59, 60);
        x.day(2);
        Edge.of(x, 0, 4, 4, 3, 0, 0, 4, 1, 1, 4);
        Edge.out(x, 1, 0, 1, 0, 1, 0, 1, 0b1111, 0);
    }

    private static void aReportAnswered() {
        Edge.sentence("I: A REPORT, at side 0: its answer is put OUT");
        // OPEN with gaps, DONE, CANCELLED
        for (int is = 1; is <= 3; is++) {
            LongCarrier x = PromiseTest.ruled("loses if clock = 0 then " + (is == 1 ? 10 : 0) + " else 0 end;");
            x.size(2);
            x.block(4, 4);
            x.open(0);
            x.day(4);
            if (is == 3) {
                x.cancel(0, 0);
                x.day(1);
            }
            x.window(60, 59, 60);
            x.day(is == 3 ? 1 : 2);
            Edge.of(x, 0, 4, 4, is);
            Edge.out(x, 0, 0, 2, 0, 1, 0, 0, 0, 0);
            Check.due("what else is OUT", x.out(0, -1, 0), is == 1 ? 2 : 1);
        }
    }

    private static void aReportTakesItsCheckpoint() {
        Edge.sentence("I: TIMERS of that CHECKPOINT (and what is OUT of it) are gone");
        // the first PIECE is lost; the CHECKPOINT rings in tick 4 and is OUT again when the REPORT comes at 5
        LongCarrier x = PromiseTest.ruled("loses if clock = 0 then 10 else 0 end; waits 4;");
        x.size(2);
        x.block(4, 4);
        x.open(0);
        x.day(5);
        Edge.out(x, 0, 0, 0, 0, 1, 2, 4, 0, 1);
        x.window(60, 59, 60);
        x.day(1);
        Edge.counts(x, 2, 0, 0, 1);
        Edge.out(x, 0, 0, 2, 0, 1, 0, 0, 0, 0);
        Edge.out(x, 0, 1, 0, 0, 2, 0, 2, 0, 0);
        Edge.timer(x, 0, 1, 1, 0, 1);
        // its TIMER, and not that of the same SERIAL of another BLOCK
        x = PromiseTest.ruled("loses if clock = 0 then 10 else 0 end; waits 60;");
        x.size(2);
        x.block(4, 4);
        x.block(1, 1);
        x.open(0);
        x.open(1);
        x.day(5);
        Edge.timer(x, 0, 0, 0, 0, 1);
        Edge.timer(x, 1, 0, 0, 1, 1);
        Check.due("and two of side 1", x.timer(-1, 0), 4);
        x.window(60, 59, 60);
        x.day(1);
        Check.due("one is gone", x.timer(-1, 0), 3);
        Edge.timer(x, 0, 0, 0, 1, 1);
        Edge.timer(x, 1, 1, 1, 0, 1);
        Edge.timer(x, 2, 1, 1, 1, 1);
    }

    private static void aReportWhenNotOpen() {
        Edge.sentence("I: is the BLOCK OPEN: those CLAIMS are CLAIMED (else not)");
        LongCarrier x = PromiseTest.quiet(4, 4);
        x.open(0);
        x.day(3);
        x.cancel(0, 0);
        x.day(3);
        Edge.of(x, 0, 4, 4, 3, 3, 0, 4, 1, 1, 4);
        Check.due("no line of it", x.ledger(1), 0);
        Check.due("GAPS", x.gaps(0, 0, true), 4);
        x = PromiseTest.quiet(4, 4);
        x.open(0);
        x.day(4);
        Edge.of(x, 0, 4, 4, 1, 0, 0, 4);
        x.day(1);
        Edge.of(x, 0, 4, 4, 2, 0, 4, 4);
    }

    /** Of three single bytes just the last comes at first, then the first of the two that were sent again. */
    private static LongCarrier threeInTurns() {
        LongCarrier x = PromiseTest.ruled("loses if clock < 2 or clock = 6 then 10 else 0 end; waits 60;");
        x.size(1);
        x.block(3, 3);
        x.open(0);
        return x;
    }

    private static void claimsAddUp() {
        Edge.sentence("I: those CLAIMS are CLAIMED; PIECES of RED bytes not CLAIMED are put OUT, the last one as a CHECKPOINT");
        LongCarrier x = threeInTurns();
        x.day(7);
        // the REPORT comes at 6: byte 2 is CLAIMED; the answer is sent at 6 and lost
        Edge.of(x, 0, 3, 3, 1, 0, 1, 1, 2, 1, 3);
        Check.due("from", x.claims(0, 0, false), 2);
        Edge.counts(x, 2, 0, 0, 1);
        Edge.out(x, 0, 0, 0, 0, 0, 0, 1, 0, 0);
        Edge.out(x, 0, 1, 0, 0, 2, 1, 2, 0, 0);
        x.day(5);
        Edge.flight(x, 0, 1, 0, 2, 0, 2, 0b111, 0, 12, 0);
        x.day(1);
        Edge.of(x, 0, 3, 3, 2, 0, 3, 3, 2, 2, 5);
    }

    /** Byte 0 is lost; a REPORT of 2 and 3 takes long, one of 1 to 3, later, is faster. */
    private static void claimsOfAnEarlierReport() {
        Edge.sentence("I: those CLAIMS are CLAIMED (what is CLAIMED already stays so)");
        LongCarrier x = PromiseTest.ruled("loses if clock = 0 then 10 else 0 end; waits if clock = 3 then 9 else 60 end;");
        x.size(1);
        x.block(4, 4);
        x.open(0);
        int[][] delaysAndTicks = {{2, 1}, {10, 1}, {2, 3}, {20, 1}, {2, 8}, {1, 1}};
        for (int[] d : delaysAndTicks) {
            x.delay(d[0]);
            x.day(d[1]);
        }
        Edge.flight(x, 0, 1, 0, 1, 0, 1, 0b1100, 0, 25, 0);
        Edge.flight(x, 1, 1, 0, 2, 0, 1, 0b1110, 0, 15, 0);
        x.window(60, 59, 60);
        x.day(1);
        Edge.of(x, 0, 4, 4, 1, 0, 3, 3, 2, 2);
        x.day(10);
        Check.due("it has come", x.flight(-1, 0), 0);
        Edge.of(x, 0, 4, 4, 1, 0, 3, 3, 2, 2);
        Check.due("CLAIMS", x.claims(0, 0, false), 1);
        Check.due("OUT: two answers and the CHECKPOINT", x.out(0, -1, 0), 3);
    }

    private static void doneAtTheLastByte() {
        Edge.sentence("I: are all RED ones, it is DONE, else");
        LongCarrier x = PromiseTest.ruled("loses if clock = 0 then 10 else 0 end; waits 60;");
        x.size(1);
        x.block(30, 24);
        x.open(0);
        x.day(28);
        Edge.of(x, 0, 30, 24, 1, 0, 23, 23, 2, 1, 24);
        Check.due("one GAP", x.gaps(0, -1, false), 1);
        Check.due("of one byte", x.gaps(0, 0, true), 1);
        Edge.out(x, 0, 0, 0, 0, 2, 0, 1, 0, 0);
        x.day(5);
        Edge.of(x, 0, 30, 24, 2, 0, 24, 24, 2, 2, 25);
        Check.due("no GAP", x.gaps(0, -1, false), 0);
    }

    private static void theLatestCheckpoint() {
        Edge.sentence("I: else, is that CHECKPOINT the latest (of an earlier one nothing is put OUT)");
        // CHECKPOINT 1 is sent at 1 and, as its TIMER rings at once, at 2: two REPORTS of it come, at 5 and 6
        LongCarrier x = PromiseTest.ruled("loses if clock = 0 then 10 else 0 end; waits if clock = 1 then 1 else 60 end;");
        x.size(2);
        x.block(4, 4);
        x.open(0);
        x.day(5);
        Check.due("REPORTS", x.of(0, 7), 2);
        x.window(60, 59, 60);
        x.day(1);
        Edge.counts(x, 2, 0, 1, 2);
        Edge.out(x, 0, 1, 0, 0, 2, 0, 2, 0, 0);
        x.day(1);
        Edge.counts(x, 3, 0, 0, 2);
        Edge.out(x, 0, 2, 2, 0, 2, 0, 0, 0, 0);
        Check.due("no CHECKPOINT more", x.of(0, 6), 2);
        Check.due("CLAIMED", x.of(0, 4), 2);
    }

    private static void doneTakesItsCheckpoints() {
        Edge.sentence("I: DONE (TIMERS of its CHECKPOINTS are gone, and CHECKPOINTS of it that are OUT)");
        // a second REPORT of CHECKPOINT 1 tells of all, while the REPORT of CHECKPOINT 2 is lost
        for (int waits : new int[] {60, 5}) {
            LongCarrier x = PromiseTest.ruled("loses if clock = 0 or clock = 8 then 10 else 0 end; "
                + "waits if clock = 1 then 1 else if clock = 6 then " + waits + " else 60 end end;");
            x.size(2);
            x.block(4, 4);
            x.open(0);
            x.day(2);
            x.delay(7);
            x.day(1);
            Edge.flight(x, 1, 0, 0, 1, 2, 4, 0, 1, 9, 1);
            x.delay(2);
            x.day(4);
            Edge.flight(x, 1, 2, 0, 1, 0, 0, 0, 0, 7, 1);
            Edge.flight(x, 2, 0, 0, 2, 0, 2, 0, 0, 8, 1);
            x.day(4);
            Edge.of(x, 0, 4, 4, 1, 0, 2, 4, 2, 3, 8);
            // that of CHECKPOINT 2 waits, or has rung and is OUT
            boolean again = waits == 5;
            Edge.counts(x, again ? 1 : 0, 0, 1, again ? 2 : 3);
            x.window(60, 59, 60);
            x.day(1);
            Edge.of(x, 0, 4, 4, 2, 0, 4, 4, 2, 3, 8);
            Edge.counts(x, 1, 0, 0, 2);
            Edge.out(x, 0, 0, 2, 0, 3);
            Edge.timer(x, 0, 1, 1, 0, 2);
            Edge.timer(x, 1, 1, 1, 0, 3);
        }
    }

    private static void answerToAReport() {
        Edge.sentence("I: The answer to a REPORT: TIMERS of that REPORT at side 1 (and what is OUT of it) are gone");
        // the REPORT, sent at 2, rings in tick 5 and is OUT again when the answer comes at 6
        LongCarrier x = PromiseTest.ruled("loses 0; waits if kind = 1 then 4 else 60 end;");
        x.block(1, 1);
        x.open(0);
        x.day(6);
        Edge.counts(x, 0, 1, 1, 0);
        Edge.out(x, 1, 0, 1, 0, 1, 0, 1, 1, 1);
        x.day(1);
        Check.due("idle", x.idle(), true);
        Check.due("sent", x.is(3), 3);
        x = PromiseTest.quiet(1, 1);
        x.open(0);
        x.day(6);
        Edge.counts(x, 0, 0, 1, 1);
        x.day(1);
        Check.due("idle", x.idle(), true);
    }

    private static void answerToOneOfTwoReports() {
        Edge.sentence("I: TIMERS of that REPORT (not of another, nor of another BLOCK)");
        LongCarrier x = PromiseTest.ruled("loses if kind = 1 and clock > 2 then 10 else 0 end; "
            + "waits if kind = 0 and clock = 0 then 2 else 60 end;");
        x.block(1, 1);
        x.block(1, 1);
        x.open(0);
        x.open(1);
        x.day(6);
        Edge.timer(x, 0, 0, 0, 1, 1);
        Edge.timer(x, 1, 1, 1, 0, 1);
        Edge.timer(x, 2, 1, 1, 1, 1);
        Edge.timer(x, 3, 1, 1, 0, 2);
        Check.due("TIMERS", x.timer(-1, 0), 4);
        x.day(1);
        Check.due("one is gone", x.timer(-1, 0), 3);
        Edge.timer(x, 0, 0, 0, 1, 1);
        Edge.timer(x, 1, 1, 1, 1, 1);
        Edge.timer(x, 2, 1, 1, 0, 2);
    }

    private static void cancellingAtSideZero() {
        Edge.sentence("I: A cancelling: CANCELLED there (at side 0: if it is OPEN), its answer is put OUT");
        LongCarrier x = PromiseTest.quiet(4, 4);
        x.block(4, 4);
        x.size(2);
        x.open(0);
        x.open(1);
        x.cancel(0, 1);
        x.window(60, 0, 1);
        x.day(3);
        Edge.of(x, 0, 4, 4, 3, 3, 0, 0);
        Edge.counts(x, 3, 0, 0, 1);
        Edge.out(x, 0, 0, 0, 1, 0, 0, 2);
        Edge.out(x, 0, 1, 0, 1, 1, 2, 4);
        Edge.out(x, 0, 2, 4, 0, 0, 0, 0, 0, 0);
        // DONE: it stays so, what is OUT of it stays, it is answered
        x = PromiseTest.quiet(21, 1);
        x.size(1);
        x.open(0);
        x.day(3);
        x.cancel(0, 1);
        x.day(3);
        Edge.of(x, 0, 21, 1, 2, 3, 1, 1);
        Check.due("green is OUT, the answers to REPORT and cancelling behind it", x.out(0, -1, 0), 17);
        Edge.out(x, 0, 14, 0, 0, 0, 20, 21);
        Edge.out(x, 0, 15, 2, 0, 1);
        Edge.out(x, 0, 16, 4, 0, 0);
        // CANCELLED already: its own cancelling waits on
        x = PromiseTest.quiet(1, 1);
        x.open(0);
        x.cancel(0, 1);
        x.cancel(0, 0);
        x.window(60, 0, 1);
        x.day(2);
        Edge.counts(x, 0, 0, 2, 2);
        x.day(1);
        Edge.counts(x, 1, 1, 0, 1);
        Edge.timer(x, 0, 0, 3, 0, 0, 6, 0);
        Edge.out(x, 0, 0, 4, 0, 0);
        Check.due("not written down", x.book(-1, 0), 3);
    }

    private static void cancellingAtSideOne() {
        Edge.sentence("I: A cancelling (at side 1 also, if it is already; what is OUT there and TIMERS of it are gone then)");
        LongCarrier x = PromiseTest.quiet(1, 1);
        x.block(1, 1);
        x.open(0);
        x.open(1);
        x.day(1);
        x.cancel(0, 0);
        x.day(2);
        // tick 2 sent the REPORT of 0; tick 3 gets the CHECKPOINT of 1
        Edge.timer(x, 0, 0, 0, 1, 1);
        Edge.timer(x, 1, 0, 3, 0, 0);
        Edge.timer(x, 2, 1, 1, 0, 1);
        x.window(60, 59, 60);
        x.day(2);
        Edge.of(x, 0, 1, 1, 3, 3);
        Check.due("one TIMER is gone", x.timer(-1, 0), 2);
        Edge.timer(x, 1, 0, 3, 0, 0);
        Edge.out(x, 1, 0, 1, 1, 1);
        Edge.out(x, 1, 1, 4, 0, 0);
        Check.due("OUT at side 1", x.out(1, -1, 0), 2);
        // CANCELLED there already: the TIMER of its own cancelling is gone
        x = PromiseTest.quiet(1, 1);
        x.open(0);
        x.cancel(0, 1);
        x.cancel(0, 0);
        x.day(2);
        Edge.timer(x, 0, 0, 3, 0, 0, 6, 0);
        Edge.timer(x, 1, 1, 3, 0, 0, 6, 0);
        x.window(60, 59, 60);
        x.day(1);
        Edge.counts(x, 1, 1, 0, 1);
        Edge.timer(x, 0, 0, 3, 0, 0, 6, 0);
        Edge.out(x, 1, 0, 4, 0, 0);
        whatRangAtSideOneIsGone();
        answersAreGone();
    }

    private static void answersAreGone() {
        // the same cancelling comes twice while they are hidden: its first answer goes, another is put OUT
        LongCarrier x = PromiseTest.ruled("loses 0; waits 1;");
        x.block(1, 1);
        x.open(0);
        x.cancel(0, 0);
        x.day(2);
        x.window(60, 59, 60);
        x.day(2);
        Edge.counts(x, 1, 1, 0, 0);
        Edge.out(x, 1, 0, 4, 0, 0);
        // side 1's comes while the answer to a REPORT is OUT at side 0
        x = PromiseTest.ruled("loses if clock = 0 then 10 else 0 end;");
        x.size(2);
        x.block(4, 4);
        x.open(0);
        x.day(4);
        x.cancel(0, 1);
        x.day(1);
        x.window(60, 59, 60);
        x.day(1);
        Edge.counts(x, 2, 0, 1, 1);
        Edge.out(x, 0, 0, 2, 0, 1);
        x.day(1);
        Edge.of(x, 0, 4, 4, 3, 3);
        Edge.counts(x, 1, 0, 0, 1);
        Edge.out(x, 0, 0, 4, 0, 0);
    }

    /** The cancelling of side 1 is OUT again at side 1 when that of side 0 comes. */
    private static void whatRangAtSideOneIsGone() {
        LongCarrier x = PromiseTest.ruled("loses 0; waits 2;");
        x.block(1, 1);
        x.open(0);
        x.cancel(0, 1);
        x.cancel(0, 0);
        x.day(2);
        Edge.counts(x, 1, 1, 2, 0);
        Edge.out(x, 1, 0, 3, 0, 0, 0, 0, 0, 1);
        x.window(60, 59, 60);
        x.day(1);
        Edge.counts(x, 2, 1, 0, 0);
        Edge.out(x, 0, 0, 3, 0, 0, 0, 0, 0, 1);
        Edge.out(x, 0, 1, 4, 0, 0, 0, 0, 0, 0);
        Edge.out(x, 1, 0, 4, 0, 0, 0, 0, 0, 0);
    }

    private static void answerToACancelling() {
        Edge.sentence("I: The answer to one: TIMERS of a cancelling of that BLOCK there (and what is OUT of it) are gone");
        LongCarrier x = PromiseTest.quiet(1, 1);
        x.block(1, 1);
        x.open(0);
        x.open(1);
        x.cancel(0, 0);
        x.cancel(1, 0);
        x.day(4);
        Edge.counts(x, 0, 0, 2, 2);
        x.day(1);
        Edge.counts(x, 0, 0, 1, 1);
        Edge.timer(x, 0, 0, 3, 1, 0);
        x.day(1);
        Check.due("idle", x.idle(), true);
        // rung and OUT again when the answer comes
        x = PromiseTest.ruled("loses 0; waits 4;");
        x.block(1, 1);
        x.open(0);
        x.cancel(0, 0);
        x.day(4);
        Edge.counts(x, 1, 0, 1, 0);
        Edge.out(x, 0, 0, 3, 0, 0, 0, 0, 0, 1);
        x.day(1);
        Check.due("idle", x.idle(), true);
        Check.due("sent", x.is(3), 2);
    }

    private static void writtenDown() {
        Edge.sentence("I: Opened, done, cancelled, lost, rung (ahead of what comes of it) are written down");
        LongCarrier x = PromiseTest.ruled("loses if number = 0 then 10 else 0 end; waits 1;");
        x.tries(0);
        x.block(1, 1);
        x.block(1, 1);
        x.block(1, 0);
        x.day(2);
        x.open(0);
        x.day(1);
        x.open(2);
        int[][] lines = {{2, 0, 0, 0}, {2, 4, 0, 0}, {2, 5, 0, 0}, {2, 2, 0, 0}, {3, 0, 2, 0}, {3, 1, 2, 0}};
        for (int i = 0; i < lines.length; i++) {
            Edge.note(x, i, lines[i]);
        }
        Check.due("lines", x.book(-1, 0), 6);
        x.day(1);
        Edge.note(x, 6, 3, 4, 0, 3);
        Edge.note(x, 7, 3, 5, 0, 3);
        x = PromiseTest.quiet(1, 1);
        x.open(0);
        x.day(5);
        Edge.note(x, 1, 4, 1, 0, 0);
        Check.due("come, sent, answered are not", x.book(-1, 0), 2);
        Edge.sentence("I: cancelled by hand is written down");
        for (int side = 0; side < 2; side++) {
            x = PromiseTest.quiet(1, 1);
            x.open(0);
            x.cancel(0, side);
            Edge.note(x, 1, 0, 2 + side, 0, 0);
        }
        Edge.sentence("I: cancelled by a TIMER is written down");
        x = PromiseTest.ruled("loses if kind = 1 then 10 else 0 end; waits if kind = 1 then 1 else 60 end;");
        x.tries(0);
        x.block(1, 1);
        x.open(0);
        x.day(3);
        Edge.note(x, 1, 2, 4, 0, 1);
        Edge.note(x, 2, 2, 5, 0, 1);
        Edge.note(x, 3, 2, 3, 0, 0);
    }

    private static void gotIsNotWrittenDown() {
        Edge.sentence("I: cancelled (not by what is GOT)");
        for (int side = 0; side < 2; side++) {
            LongCarrier x = PromiseTest.quiet(1, 1);
            x.open(0);
            x.cancel(0, side);
            x.day(9);
            Edge.of(x, 0, 1, 1, 3, 3);
            Check.due("opened and cancelled once", x.book(-1, 0), 2);
        }
    }

    private static void thirtySteps() {
        Edge.sentence("I: STEPS: the latest 30 can be taken back, the latest first");
        for (int steps : new int[] {29, 30, 31, 61}) {
            LongCarrier x = new LongCarrier();
            for (int n = 0; n < steps; n++) {
                x.day(1);
            }
            int most = Math.min(30, steps);
            Check.due("of " + steps, x.about(3), most);
            for (int left = most - 1; left >= 0; left--) {
                Check.due("undo", x.undo(), left);
                Check.due("CLOCK", x.is(0), steps - most + left);
            }
            Check.due("there is none", x.undo(), -1);
            Check.due("CLOCK", x.is(0), steps - most);
            Check.due("about(3)", x.about(3), 0);
            x.day(2);
            Check.due("and again", x.undo(), 1);
        }
    }

    private static void aStepEach() {
        Edge.sentence("I: STEPS: OPENED, CANCELLED, a TICK (each)");
        LongCarrier x = PromiseTest.quiet(1, 1);
        Check.due("what is told is none", x.about(3), 0);
        x.open(0);
        Check.due("OPENED", x.about(3), 1);
        x.cancel(0, 1);
        x.cancel(0, 0);
        Check.due("CANCELLED", x.about(3), 3);
        x.day(4);
        Check.due("four TICKS", x.about(3), 7);
        x.image();
        x.seen(0);
        x.till(0);
        Check.due("what asks is none", x.about(3), 7);
        x.undo();
        Check.due("CLOCK", x.is(0), 3);
        for (int n = 0; n < 4; n++) {
            x.undo();
        }
        Edge.of(x, 0, 1, 1, 1, 3);
        x.undo();
        Edge.of(x, 0, 1, 1, 1, 0);
        x.undo();
        Edge.of(x, 0, 1, 1, 0, 0);
        // CANCELLED by a TIMER goes with its TICK
        x = PromiseTest.ruled("loses 10; waits 1;");
        x.tries(0);
        x.block(1, 1);
        x.open(0);
        x.day(1);
        Check.due("OPENED and a TICK", x.about(3), 2);
        x.undo();
        Edge.of(x, 0, 1, 1, 1, 0, 0, 0, 1, 0, 0);
        Edge.counts(x, 1, 0, 0, 0);
        Check.due("lines", x.book(-1, 0), 1);
        Check.due("X", x.is(1), 491);
        Check.due("sent", x.is(3) + x.is(4), 0);
    }

    private static void toldStays() {
        Edge.sentence("I: all but what is told is as ahead of it");
        LongCarrier x = PromiseTest.quiet(8, 8);
        x.open(0);
        x.day(3);
        LongCarrier y = PromiseTest.quiet(8, 8);
        y.open(0);
        y.day(3);
        y.day(1);
        for (LongCarrier c : new LongCarrier[] {x, y}) {
            c.block(7, 7);
            c.window(5, 1, 4);
            c.delay(9);
            c.size(9);
            c.tries(9);
            Check.text(c, "loses 7;");
            c.by(1);
            c.said(1, 1);
            Check.tape(c, "day 1;");
        }
        Check.due("undo", y.undo(), 4);
        Edge.same("a TICK taken back, all that can be told being told since", y, x);
    }

    private static void toldSinceIsNew() {
        Edge.sentence("I: a BLOCK told since is NEW");
        LongCarrier x = new LongCarrier();
        x.day(1);
        x.block(4, 4);
        x.open(0);
        x.day(5);
        for (int n = 0; n < 7; n++) {
            x.undo();
        }
        Check.due("CLOCK", x.is(0), 0);
        Edge.of(x, 0, 4, 4, 0, 0, 0, 0, 0, 0, 0);
        Check.due("BLOCKS", x.about(0), 1);
        Check.due("it can be OPENED", x.open(0), 1);
        Edge.out(x, 0, 0, 0, 0, 1, 0, 4);
    }

    private static void yearsAreOneStep() {
        Edge.sentence("I: STEPS: YEARS");
        LongCarrier x = PromiseTest.quiet(8, 8);
        x.open(0);
        x.day(2);
        x.years(17, 40);
        Check.due("one more", x.about(3), 4);
        Check.due("undo", x.undo(), 3);
        LongCarrier y = PromiseTest.quiet(8, 8);
        y.open(0);
        y.day(2);
        Edge.same("YEARS taken back", x, y);
    }
}
