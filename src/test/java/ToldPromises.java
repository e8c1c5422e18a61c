/** Promises 1 to 11, 33 to 40, 48, 56 to 58: what is told, bits, the image. */
final class ToldPromises {
    private static final int ALL = (1 << 30) - 1;

    private ToldPromises() {
    }

    static void run() {
        newObject();
        block();
        window();
        delaySizeTries();
        feedAndEnd();
        text();
        fault();
        faultOfNumbers();
        faultOfDepth();
        faultOfClauses();
        by();
        spans();
        pieces();
        bits();
        image();
        about();
    }

    private static void newObject() {
        PromiseTest.promise(1);
        LongCarrier x = new LongCarrier();
        int[] about = {0, 0, -1, 0, 0, 0, 2, 4, 3};
        for (int what = 0; what < about.length; what++) {
            Check.due("about(" + what + ")", x.about(what), about[what]);
        }
        int[] is = {0, 491, 0, 0, 0};
        for (int what = 0; what < is.length; what++) {
            Check.due("is(" + what + ")", x.is(what), is[what]);
        }
        Check.due("idle", x.idle(), true);
        Check.due("seen(0)", x.seen(0), true);
        Check.due("seen(999)", x.seen(999), true);
        Check.due("book", x.book(-1, 0), 0);
        x.block(3, 3);
        x.open(0);
        x.delay(9);
        x.day(30);
        Check.due("back", x.back(), 0);
        Check.due("BLOCKS behind it", x.about(0), 0);
        Check.due("DELAY behind it", x.about(6), 2);
        Check.due("STEPS behind it", x.about(3), 0);
        Check.due("X behind it", x.is(1), 491);
        Check.due("NONE", LongCarrier.NONE, -1);
    }

    private static void block() {
        PromiseTest.promise(2);
        LongCarrier x = new LongCarrier();
        for (int wrong : PromiseTest.wrongNumbers(1, 30)) {
            Check.due("block(" + wrong + ", 0)", x.block(wrong, 0), -1);
        }
        for (int wrong : PromiseTest.wrongNumbers(0, 5)) {
            Check.due("block(5, " + wrong + ")", x.block(5, wrong), -1);
        }
        Check.due("block(30, 30)", x.block(30, 30), 0);
        Check.due("block(1, 0)", x.block(1, 0), 1);
        Check.due("block(7, 7)", x.block(7, 7), 2);
        Check.due("a fourth", x.block(7, 7), -1);
        Check.due("LENGTH", x.of(0, 0), 30);
        Check.due("RED", x.of(1, 1), 0);
        Check.due("how many", x.about(0), 3);
    }

    private static void window() {
        PromiseTest.promise(3);
        LongCarrier x = new LongCarrier();
        Check.due("window(4, 1, 3)", x.window(4, 1, 3), true);
        for (int wrong : PromiseTest.wrongNumbers(1, 60)) {
            Check.due("window(" + wrong + ", 0, 1)", x.window(wrong, 0, 1), false);
        }
        Check.due("window(5, 2, 2)", x.window(5, 2, 2), false);
        Check.due("window(5, 3, 2)", x.window(5, 3, 2), false);
        Check.due("window(5, 5, 6)", x.window(5, 5, 6), false);
        Check.due("window(5, 0, 6)", x.window(5, 0, 6), false);
        Check.due("window(5, -1, 2)", x.window(5, -1, 2), false);
        Check.due("window(5, -9, 0)", x.window(5, -9, 0), false);
        for (int n = 0; n < 12; n++) {
            Check.due("seen(" + n + ")", x.seen(n), n % 4 == 1 || n % 4 == 2);
        }
        Check.due("window(60, 59, 60)", x.window(60, 59, 60), true);
        Check.due("seen(58)", x.seen(58), false);
        Check.due("seen(59)", x.seen(59), true);
        Check.due("window(1, 0, 1)", x.window(1, 0, 1), true);
        Check.due("seen(58)", x.seen(58), true);
    }

    private static void delaySizeTries() {
        LongCarrier x = PromiseTest.quiet(4, 4);
        PromiseTest.promise(4);
        for (int wrong : PromiseTest.wrongNumbers(1, 20)) {
            Check.due("delay(" + wrong + ")", x.delay(wrong), false);
        }
        Check.due("DELAY", x.about(6), 2);
        Check.due("delay(1)", x.delay(1), true);
        Check.due("DELAY", x.about(6), 1);
        Check.due("delay(20)", x.delay(20), true);
        Check.due("DELAY", x.about(6), 20);
        x.open(0);
        x.day(1);
        Check.due("it comes", x.flight(0, 7), 20);
        PromiseTest.promise(5);
        for (int wrong : PromiseTest.wrongNumbers(1, 9)) {
            Check.due("size(" + wrong + ")", x.size(wrong), false);
        }
        Check.due("SIZE", x.about(7), 4);
        Check.due("size(9)", x.size(9), true);
        Check.due("PIECES", x.pieces(ALL), 4);
        Check.due("size(1)", x.size(1), true);
        Check.due("PIECES", x.pieces(ALL), 30);
        PromiseTest.promise(6);
        for (int wrong : PromiseTest.wrongNumbers(0, 9)) {
            Check.due("tries(" + wrong + ")", x.tries(wrong), false);
        }
        Check.due("TRIES", x.about(8), 3);
        Check.due("tries(9)", x.tries(9), true);
        Check.due("TRIES", x.about(8), 9);
        Check.due("tries(0)", x.tries(0), true);
        Check.due("TRIES", x.about(8), 0);
    }

    private static void feedAndEnd() {
        PromiseTest.promise(7);
        LongCarrier x = new LongCarrier();
        for (int n = 20; n <= 300; n += 20) {
            Check.due("feed", x.feed(-1, -1, -1, -1, -1), n);
        }
        Check.due("feed beyond", x.feed(0, 0, 0, 0, 0), -1);
        Check.due("the tape stays", x.about(5), 300);
        PromiseTest.promise(8);
        Check.due("end(301)", x.end(301), -1);
        Check.due("end(-1)", x.end(-1), -1);
        Check.due("end(least)", x.end(Integer.MIN_VALUE), -1);
        Check.due("end(most)", x.end(Integer.MAX_VALUE), -1);
        Check.due("the tape", x.about(5), 300);
        Check.due("end(300)", x.end(300), 300);
        Check.due("end(281)", x.end(281), 281);
        PromiseTest.promise(7);
        Check.due("feed at 281", x.feed(0, 0, 0, 0, 0), -1);
        Check.due("end(280)", x.end(280), 280);
        Check.due("feed at 280", x.feed(0, 0, 0, 0, 0), 300);
        Check.due("end(0)", x.end(0), 0);
        // "day 2;" and fourteen blanks, the highest byte of each first
        Check.due("feed", x.feed(0x64617920, 0x323b2020, 0x20202020, 0x20202020, 0x20202020), 20);
        Check.due("text", x.text(), 0);
        Check.due("played", x.played(0), -1);
        Check.due("CLOCK", x.is(0), 2);
    }

    private static void text() {
        PromiseTest.promise(9);
        LongCarrier x = new LongCarrier();
        Check.due("nothing is a TEXT", x.text(), 0);
        Check.due("blanks are one", Check.text(x, " \n \n"), 1);
        Check.due("the tape is empty", x.about(5), 0);
        Check.due("one with a FAULT", Check.text(x, "day 2"), -1);
        Check.due("the tape is empty", x.about(5), 0);
        Check.due("as many as before", x.about(1), 2);
        Check.due("no blanks", Check.text(x, "block3of4;loses(1+2)*clock;waits-sun;open0;cancel0by1;day1;"), 2);
        Check.due("blanks", Check.text(x, "\nloses  (\n1 ) ;"), 3);
        Check.due("a fifth", Check.text(x, "day 2"), -1);
        Check.due("the tape stays", x.about(5), 5);
        Check.due("it was not read", x.fault(0), 0);
        Check.due("TEXTS", x.about(1), 4);
    }

    static void fault(String text, int sort, int place) {
        LongCarrier x = new LongCarrier();
        Check.due("'" + text + "'", Check.text(x, text), sort == 0 ? 0 : -1);
        Check.due("FAULT of '" + text + "'", x.fault(0), sort);
        Check.due("place in '" + text + "'", x.fault(1), place);
    }

    private static void fault() {
        PromiseTest.promise(10);
        LongCarrier x = new LongCarrier();
        Check.due("ahead of any", x.fault(0), -1);
        Check.due("ahead of any", x.fault(1), -1);
        Check.text(x, "  day;");
        Check.due("FAULT", x.fault(0), 1);
        Check.due("place", x.fault(1), 5);
        Check.due("others", x.fault(2), -1);
        Check.due("others", x.fault(-1), -1);
        Check.text(x, "day 1;");
        Check.due("without", x.fault(0), 0);
        Check.due("without", x.fault(1), -1);
        fault("day 1", 1, 5);
        fault("day 1 \n ", 1, 8);
        fault("day 1;;", 1, 6);
        fault("\tday 1;", 1, 0);
        fault("day\r1;", 1, 3);
        fault("day " + (char) 233 + ";", 1, 4);
        fault("Day 1;", 1, 0);
        fault("dayx 1;", 1, 0);
        fault("dayz 1;", 1, 0);
        fault("dayA 1;", 1, 0);
        fault("dayZ 1;", 1, 0);
        fault("day@1;", 1, 3);
        fault("day[1;", 1, 3);
        fault("day`1;", 1, 3);
        fault("day{1;", 1, 3);
        fault("day/1;", 1, 3);
        fault("day:1;", 1, 3);
        fault("loses 1 2;", 1, 8);
        fault("loses foo;", 1, 6);
        fault("loses;", 1, 5);
        fault("loses 1 < 2;", 1, 8);
        fault("loses (1;", 1, 8);
        fault("loses 1);", 1, 7);
        fault("loses + 1;", 1, 6);
        fault("loses if 1 then 2 else 3 end;", 1, 11);
        fault("loses if 1 < 2 < 3 then 2 else 3 end;", 1, 15);
        fault("loses if (1 < 2) then 2 else 3 end;", 1, 12);
        fault("loses if 1 <> 2 then 2 else 3 end;", 1, 12);
        fault("loses if 1 = 2 then 2 end;", 1, 22);
        fault("loses if 1 = 2 then 2 else 3;", 1, 28);
        fault("loses if not 1 = 2 or not 2 >= 1 and 3 <= 4 then 2 else 3 end;", 0, -1);
        fault("loses if 1 = 2 or then 2 else 3 end;", 1, 18);
        fault("loses not 1;", 1, 6);
        fault("cancel 0 of 1;", 1, 9);
        fault("block 1 by 2;", 1, 8);
        fault("loses claimed come - -1 - - 2 * (3);", 0, -1);
    }

    private static void faultOfNumbers() {
        fault("loses 9999;", 0, -1);
        fault("loses 10000;", 2, 6);
        fault("loses 00000000000000000000000009999;", 0, -1);
        fault("loses 99999999999999999999999999999;", 2, 6);
        fault("loses 4294967297;", 2, 6);
        fault("10000", 1, 0);
        fault("loses 1 10000;", 1, 8);
        fault("block 0 of 1;", 0, -1);
        fault("block 30 of 30;", 0, -1);
        fault("block 31 of 30;", 2, 6);
        fault("block 0 of 0;", 2, 11);
        fault("block 3 of 31;", 2, 11);
        fault("block 3 of 2;", 2, 11);
        fault("open 2;", 0, -1);
        fault("open 3;", 2, 5);
        fault("cancel 2 by 1;", 0, -1);
        fault("cancel 3 by 1;", 2, 7);
        fault("cancel 2 by 2;", 2, 12);
        fault("day 30;", 0, -1);
        fault("day 31;", 2, 4);
        fault("day 0;", 2, 4);
        fault("day - 1;", 1, 4);
        // the names of one law in the other
        fault("loses bytes;", 0, -1);
        fault("waits tried;", 0, -1);
        fault("waits clock + sun + kind + number + delay;", 0, -1);
        fault("loses clock + sun + kind + number + delay;", 0, -1);
        fault("loses 1 + tried;", 5, 10);
        fault("waits -bytes;", 5, 7);
        fault("loses 1 tried;", 1, 8);
        fault("tried;", 1, 0);
    }

    private static void faultOfDepth() {
        fault("loses ((((((((1))))))));", 0, -1);
        fault("loses (((((((((1)))))))));", 3, 14);
        fault("loses --------1;", 0, -1);
        fault("loses ---------1;", 3, 14);
        fault("loses claimed(claimed(claimed(claimed 1)))+claimed(claimed(claimed(claimed(1))));", 0, -1);
        fault("loses claimed(claimed(claimed(claimed come 1)));", 0, -1);
        fault("loses claimed(claimed(claimed(claimed(come 1))));", 3, 38);
        fault("waits if not not not not not not not 1 = 1 then 1 else 2 end;", 0, -1);
        fault("waits if not not not not not not not not 1 = 1 then 1 else 2 end;", 3, 37);
        fault("waits if not not not not not not not 1 = (1) then 1 else 2 end;", 3, 41);
        fault("waits ((((((( if 1 = 1 then 1 else (1) end)))))));", 3, 35);
        fault("waits (((((((1) + 1) - (1) + 1) - 1 ) - 1) - 1) - 1);", 0, -1);
        fault("waits ((((((((if", 3, 14);
        fault("waits (((((((((", 3, 14);
        fault("waits ((((((((+", 1, 14);
        fault("waits ((((((((bytes", 5, 14);
        fault("waits ((((((((10000", 2, 14);
        // the deepest of every sort
        fault("loses if if if if if if if if 1=1 then 1 else 1 end=1 then 1 else 1 end=1 then 1 else 1 end=1 then 1 else 1 end"
            + "=1 then 1 else 1 end=1 then 1 else 1 end=1 then 1 else 1 end=1 then 1 else 1 end;", 0, -1);
    }

    private static void faultOfClauses() {
        String days = "day 1;".repeat(23);
        fault(days + "day 1;", 0, -1);
        fault(days + "day 1; day 1;", 6, 145);
        fault(days + "day 1; day 10000;", 6, 145);
        fault(days + "day 1; x", 1, 145);
        fault(days + "loses 1; waits 1;", 6, 147);
        fault(days + "loses 1; loses 1;", 4, 147);
        fault("loses 1; waits 1; loses 1;", 4, 18);
        fault("waits 1; loses 1; waits", 4, 18);
    }

    private static void by() {
        PromiseTest.promise(11);
        LongCarrier x = new LongCarrier();
        x.block(1, 1);
        Check.due("by(0), none being there", x.by(0), false);
        Check.due("by(-1)", x.by(-1), true);
        Check.text(x, "loses 7; waits 9;");
        Check.text(x, "loses 5;");
        Check.due("none as yet", x.about(2), -1);
        Check.due("by(1)", x.by(1), true);
        Check.due("loses", x.loses(0, 0), 5);
        Check.due("waits without", x.waits(0, 0, 0), 6);
        Check.due("by(0)", x.by(0), true);
        Check.due("loses", x.loses(0, 0), 7);
        Check.due("waits", x.waits(0, 0, 0), 9);
        for (int wrong : PromiseTest.wrongNumbers(-1, 1)) {
            Check.due("by(" + wrong + ")", x.by(wrong), false);
        }
        Check.due("as it was", x.about(2), 0);
        Check.due("by(NONE)", x.by(LongCarrier.NONE), true);
        Check.due("loses without", x.loses(0, 0), 2);
    }

    private static void spans() {
        LongCarrier x = new LongCarrier();
        for (int wrong : PromiseTest.wrongBits()) {
            PromiseTest.promise(33);
            Check.due("spans(" + wrong + ")", x.spans(wrong), -1);
            PromiseTest.promise(34);
            Check.due("span(" + wrong + ")", x.span(wrong, 0, false), -1);
        }
        PromiseTest.promise(33);
        Check.due("spans(0)", x.spans(0), 0);
        Check.due("spans(ALL)", x.spans(ALL), 1);
        Check.due("spans, every second", x.spans(0x15555555), 15);
        Check.due("spans, the last", x.spans(1 << 29), 1);
        PromiseTest.promise(34);
        Check.due("from", x.span(0x2000073c, 0, false), 2);
        Check.due("to", x.span(0x2000073c, 0, true), 6);
        Check.due("from", x.span(0x2000073c, 1, false), 8);
        Check.due("to", x.span(0x2000073c, 1, true), 11);
        Check.due("from", x.span(0x2000073c, 2, false), 29);
        Check.due("to", x.span(0x2000073c, 2, true), 30);
        Check.due("to of ALL", x.span(ALL, 0, true), 30);
        for (int wrong : PromiseTest.wrongNumbers(0, 2)) {
            Check.due("the " + wrong, x.span(0x2000073c, wrong, true), -1);
        }
    }

    private static void pieces() {
        LongCarrier x = new LongCarrier();
        for (int wrong : PromiseTest.wrongBits()) {
            PromiseTest.promise(36);
            Check.due("pieces(" + wrong + ")", x.pieces(wrong), -1);
            PromiseTest.promise(37);
            Check.due("piece(" + wrong + ")", x.piece(wrong, 0, false), -1);
        }
        PromiseTest.promise(36);
        Check.due("pieces(0)", x.pieces(0), 0);
        // spans 0 to 5, 6 to 14 and 29 to 30, by 4: 2, 2 and 1
        int bits = 0x20003fdf;
        Check.due("pieces", x.pieces(bits), 5);
        PromiseTest.promise(37);
        int[] from = {0, 4, 6, 10, 29};
        int[] to = {4, 5, 10, 14, 30};
        for (int i = 0; i < 5; i++) {
            Check.due("from of " + i, x.piece(bits, i, false), from[i]);
            Check.due("to of " + i, x.piece(bits, i, true), to[i]);
        }
        for (int wrong : PromiseTest.wrongNumbers(0, 4)) {
            Check.due("the " + wrong, x.piece(bits, wrong, false), -1);
        }
        x.size(9);
        Check.due("to by 9", x.piece(ALL, 3, true), 30);
        Check.due("from by 9", x.piece(ALL, 3, false), 27);
    }

    private static void bits() {
        LongCarrier x = new LongCarrier();
        for (int wrong : PromiseTest.wrongBits()) {
            PromiseTest.promise(35);
            Check.due("within", x.within(wrong, 0, 1), -1);
            PromiseTest.promise(38);
            Check.due("join", x.join(wrong, 0), -1);
            Check.due("join", x.join(0, wrong), -1);
            PromiseTest.promise(39);
            Check.due("less", x.less(wrong, 0), -1);
            Check.due("less", x.less(0, wrong), -1);
            PromiseTest.promise(40);
            Check.due("longest", x.longest(wrong), -1);
        }
        PromiseTest.promise(35);
        Check.due("within(ALL, 0, 30)", x.within(ALL, 0, 30), ALL);
        Check.due("within(ALL, 29, 30)", x.within(ALL, 29, 30), 1 << 29);
        Check.due("within(ALL, 30, 30)", x.within(ALL, 30, 30), 0);
        Check.due("within(ALL, 0, 0)", x.within(ALL, 0, 0), 0);
        Check.due("within(0b110101, 2, 5)", x.within(0b110101, 2, 5), 0b010100);
        Check.due("within(1, -1, 1)", x.within(1, -1, 1), -1);
        Check.due("within(1, 2, 1)", x.within(1, 2, 1), -1);
        Check.due("within(1, 0, 31)", x.within(1, 0, 31), -1);
        Check.due("within(1, 0, most)", x.within(1, 0, Integer.MAX_VALUE), -1);
        PromiseTest.promise(38);
        Check.due("join", x.join(0b1100, 0b1010), 0b1110);
        Check.due("join", x.join(ALL, 0), ALL);
        PromiseTest.promise(39);
        Check.due("less", x.less(0b1100, 0b1010), 0b0100);
        Check.due("less", x.less(ALL, ALL), 0);
        PromiseTest.promise(40);
        Check.due("longest(0)", x.longest(0), 0);
        Check.due("longest(ALL)", x.longest(ALL), 30);
        Check.due("longest of 2, 3 and 1", x.longest(0b101110110000), 3);
        Check.due("longest at the end", x.longest(0x38000003), 3);
    }

    private static void image() {
        PromiseTest.promise(56);
        LongCarrier x = PromiseTest.carried(3);
        x.window(5, 0, 4);
        x.said(3, 0);
        Check.due("image", x.image(), 3);
        x.day(4);
        x.undo();
        Check.text(x, "loses 9;");
        x.by(1);
        x.delay(7);
        x.size(7);
        x.tries(7);
        x.window(7, 1, 2);
        x.block(9, 9);
        x.said(-1, 0);
        x.said(1, 1);
        x.feed(0, 0, 0, 0, 0);
        Check.text(x, "x");
        x.feed(0, 0, 0, 0, 0);
        PromiseTest.promise(57);
        for (int n = 0; n < 2; n++) {
            Check.due("back", x.back(), 3);
            int[] about = {1, 1, 0, 4, 1, 20, 2, 4, 3};
            for (int what = 0; what < about.length; what++) {
                Check.due("about(" + what + ")", x.about(what), about[what]);
            }
            Check.due("the latest FAULT stays", x.fault(0), 1);
            Check.due("whose", x.whose(), 1);
            Check.due("seen(0)", x.seen(0), true);
            Check.due("seen(1)", x.seen(1), false);
            Check.due("seen(2)", x.seen(2), true);
            x.window(1, 0, 1);
            Check.due("come", x.of(0, 5), 4);
            Check.due("out", x.out(0, -1, 0), 0);
            Check.due("in flight", x.flight(-1, 0), 2);
            Check.due("timers", x.timer(-1, 0), 1);
            x.day(5);
            Check.due("done", x.of(0, 2), 2);
            Check.due("idle", x.idle(), true);
        }
        Check.due("back", x.back(), 3);
        Check.due("undo behind it", x.undo(), 3);
        Check.due("CLOCK", x.is(0), 2);
        Check.due("undo of the opening", x.undo() + x.undo() + x.undo(), 2 + 1);
        Check.due("NEW", x.of(0, 2), 0);
        Check.due("the image is as it was", x.back(), 3);
        PromiseTest.promise(56);
        x.day(1);
        Check.due("another image", x.image(), 4);
        x.day(9);
        Check.due("back to that one", x.back(), 4);
        x = new LongCarrier();
        x.block(4, 0);
        x.open(0);
        x.day(1);
        x.image();
        x.years(5, 20);
        x.back();
        int[] is = {1, 30303, 1, 1, 1};
        for (int what = 0; what < is.length; what++) {
            Check.due("is(" + what + ")", x.is(what), is[what]);
        }
    }

    private static void about() {
        PromiseTest.promise(58);
        LongCarrier x = PromiseTest.carried(3);
        x.said(1, 2);
        x.said(1, 3);
        x.feed(1, 2, 3, 4, 5);
        x.delay(5);
        x.size(6);
        x.tries(7);
        int[] about = {1, 1, 0, 4, 2, 20, 5, 6, 7};
        for (int what = 0; what < about.length; what++) {
            Check.due("about(" + what + ")", x.about(what), about[what]);
        }
        for (int wrong : PromiseTest.wrongNumbers(0, 8)) {
            Check.due("about(" + wrong + ")", x.about(wrong), -2);
        }
    }
}
