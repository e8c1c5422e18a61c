/** Promises 44 and 48 to 51, and how the language of part II is asked. */
final class LawPromises {
    private LawPromises() {
    }

    static void run() {
        loses();
        waits();
        reckoning();
        choices();
        names();
        bytesOfBlocks();
        odds();
        said();
        whose();
    }

    private static void loses() {
        PromiseTest.promise(50);
        LongCarrier x = new LongCarrier();
        Check.due("no BLOCK", x.loses(0, 0), -1);
        x.block(3, 3);
        x.block(3, 3);
        Check.due("without a TEXT", x.loses(0, 0), 2);
        Check.text(x, "waits 3;");
        x.by(0);
        Check.due("without a law", x.loses(0, 0), 2);
        Check.text(x, "loses kind * 3 - number + bytes;");
        x.by(1);
        int[] loses = {0, 2, 5, 8, 10};
        for (int kind = 0; kind < 5; kind++) {
            Check.due("loses(1, " + kind + ")", x.loses(1, kind), loses[kind]);
        }
        Check.due("loses(0, 3)", x.loses(0, 3), 9);
        for (int wrong : PromiseTest.wrongNumbers(0, 4)) {
            Check.due("loses(0, " + wrong + ")", x.loses(0, wrong), -1);
        }
        for (int wrong : PromiseTest.wrongNumbers(0, 1)) {
            Check.due("loses(" + wrong + ", 0)", x.loses(wrong, 0), -1);
        }
    }

    private static void waits() {
        PromiseTest.promise(51);
        LongCarrier x = new LongCarrier();
        Check.due("no BLOCK", x.waits(0, 0, 0), -1);
        x.block(3, 3);
        x.block(3, 3);
        Check.due("without a TEXT", x.waits(0, 0, 0), 6);
        x.delay(20);
        Check.due("without a TEXT", x.waits(1, 4, 9), 42);
        Check.text(x, "loses 3;");
        x.by(0);
        Check.due("without a law", x.waits(0, 0, 0), 42);
        Check.text(x, "waits tried * 8 + kind - number * 20;");
        x.by(1);
        Check.due("waits(0, 0, 0), 1 at least", x.waits(0, 0, 0), 1);
        Check.due("waits(0, 4, 7), 60 at most", x.waits(0, 4, 7), 60);
        Check.due("waits(0, 4, 8), 60 at most", x.waits(0, 4, 8), 60);
        Check.due("waits(0, 3, 7)", x.waits(0, 3, 7), 59);
        Check.due("waits(1, 3, 7)", x.waits(1, 3, 7), 39);
        for (int wrong : PromiseTest.wrongNumbers(0, 9)) {
            Check.due("waits(0, 0, " + wrong + ")", x.waits(0, 0, wrong), -1);
        }
        for (int wrong : PromiseTest.wrongNumbers(0, 4)) {
            Check.due("waits(0, " + wrong + ", 0)", x.waits(0, wrong, 0), -1);
        }
        for (int wrong : PromiseTest.wrongNumbers(0, 1)) {
            Check.due("waits(" + wrong + ", 0, 0)", x.waits(wrong, 0, 0), -1);
        }
    }

    /** What a SUM is, of 1 to 60, of BLOCK 0 and kind 3, tried 7 times. */
    private static void is(String sum, int want) {
        LongCarrier x = PromiseTest.ruled("waits " + sum + ";");
        x.block(10, 6);
        Check.due(sum, x.waits(0, 3, 7), want);
    }

    private static void reckoning() {
        PromiseTest.promise(51);
        is("9 - 4 - 3", 2);
        is("60 / 5 / 3", 4);
        is("60 / 5 * 3", 36);
        is("2 + 3 * 4", 14);
        is("(2 + 3) * 4", 20);
        is("2 - -3", 5);
        is("20 - - - 3", 17);
        is("-2 * -3", 6);
        is("10 + 7 / 2", 13);
        is("10 + -7 / 2", 7);
        is("10 + 7 / -2", 7);
        is("10 + -7 / -2", 13);
        is("10 + 7 / 0", 10);
        is("5 + 0 / 0", 5);
        is("9999 * 9999 / 1000 * 0 + 9999 * 9999 / 9999 / 10", 10);
        // 1000000 at each step, and the same less
        is("9999 * 9999 - 9999 * 100 - 80", 20);
        is("9999 * 9999 * 9999 / 9999 - 60", 40);
        is("9999 * -9999 + 9999 * 100 + 130", 30);
        is("9999 * 100 + 100 + 1 - 9999 * 100 - 60", 40);
        is("9999 * -100 - 100 - 1 + 9999 * 100 + 120", 20);
        is("9999*9999*(9999*9999)/9999 - 60", 40);
        is("0 - 3", 1);
        is("61", 60);
    }

    private static void choice(String either, boolean holds) {
        is("if " + either + " then 20 else 30 end", holds ? 20 : 30);
    }

    private static void choices() {
        PromiseTest.promise(51);
        String[] signs = {"<", "<=", ">", ">=", "=", "#"};
        boolean[][] holds = {{true, true, false, false, false, true}, {false, true, false, true, true, false},
            {false, false, true, true, false, true}};
        for (int right = 1; right <= 3; right++) {
            for (int sign = 0; sign < 6; sign++) {
                choice("2 " + signs[sign] + " " + right, holds[3 - right][sign]);
            }
        }
        choice("1 = 1 or 1 = 2", true);
        choice("1 = 2 or 1 = 1", true);
        choice("1 = 2 or 1 = 2", false);
        choice("1 = 1 and 1 = 2", false);
        choice("1 = 2 and 1 = 1", false);
        choice("1 = 1 and 1 = 1", true);
        choice("1 = 1 or 1 = 1 and 1 = 2", true);
        choice("1 = 2 and 1 = 1 or 1 = 1", true);
        choice("not 1 = 2", true);
        choice("not not 1 = 2", false);
        choice("not 1 = 1 or 1 = 1", true);
        choice("not 1 = 2 and 1 = 2", false);
        choice("1 + 1 = 4 / 2", true);
        is("if 1 = 1 then 2 else 3 end + if 1 = 2 then 10 else 20 end", 22);
        is("if if 1 = 1 then 2 else 3 end = 2 then if 1 = 2 then 4 else 5 end else if 1 = 1 then 6 else 7 end end", 5);
        is("if if 1 = 1 then 2 else 3 end = 3 then if 1 = 2 then 4 else 5 end else if 1 = 1 then 6 else 7 end end * 2", 12);
    }

    private static void names() {
        PromiseTest.promise(51);
        LongCarrier x = PromiseTest.ruled("waits clock;");
        x.block(3, 3);
        x.block(3, 3);
        String[] laws = {"sun", "kind * 10", "number * 10 + 10", "delay", "tried * 2"};
        x.window(4, 0, 3);
        x.day(30);
        Check.due("clock", x.waits(0, 0, 0), 30);
        int[] want = {23, 20, 20, 17, 12};
        x.delay(17);
        for (int i = 0; i < laws.length; i++) {
            LongCarrier y = PromiseTest.ruled("waits " + laws[i] + ";");
            y.block(3, 3);
            y.block(3, 3);
            y.delay(17);
            y.window(4, 0, 3);
            y.day(30);
            Check.due(laws[i], y.waits(1, 2, 6), want[i]);
        }
    }

    private static void bytesOfBlocks() {
        PromiseTest.promise(50);
        LongCarrier x = PromiseTest.ruled("loses if clock < 20 then 0 else claimed number end; waits come number + come(number + 9);");
        x.block(10, 6);
        x.block(5, 3);
        x.open(0);
        x.day(20);
        Check.due("claimed", x.loses(0, 0), 6);
        Check.due("claimed of the NEW one", x.loses(1, 0), 0);
        PromiseTest.promise(51);
        Check.due("come", x.waits(0, 0, 0), 10);
        Check.due("come of the NEW one", x.waits(1, 0, 0), 1);
        x = PromiseTest.ruled("loses 0; waits 10 + come 0 + 3 * come -1 + 5 * come 3 + 7 * claimed 2;");
        x.block(4, 4);
        Check.due("nothing yet", x.waits(0, 0, 0), 10);
        x.open(0);
        x.day(9);
        Check.due("of others nothing", x.waits(0, 0, 0), 14);
    }

    private static void odds() {
        PromiseTest.promise(44);
        LongCarrier x = PromiseTest.ruled("loses bytes;");
        Check.due("no BLOCK", x.odds(0, false), -1);
        x.block(10, 6);
        x.block(30, 18);
        x.block(19, 19);
        for (int wrong : PromiseTest.wrongNumbers(0, 2)) {
            Check.due("odds(" + wrong + ")", x.odds(wrong, false), -1);
        }
        // six and eight of ten
        Check.due("upper", x.odds(0, false), 12);
        Check.due("lower", x.odds(0, true), 25);
        x.size(1);
        // 9 to the 18th of 10 to the 18th
        Check.due("upper", x.odds(1, false), 150094635296999121L);
        Check.due("lower", x.odds(1, true), 1000000000000000000L);
        Check.due("19 PIECES", x.odds(2, false), -1);
        Check.due("19 PIECES", x.odds(2, true), -1);
        x.size(2);
        Check.due("10 PIECES", x.odds(2, true) > 0, true);
        x.open(0);
        Check.due("not NEW", x.odds(0, false), -1);
        x.by(-1);
        x.size(9);
        // four fifths, twice
        Check.due("upper", x.odds(1, false), 16);
        Check.due("lower", x.odds(1, true), 25);
        Check.text(x, "loses 10;");
        x.by(1);
        Check.due("none", x.odds(1, false), 0);
        Check.due("of one", x.odds(1, true), 1);
        Check.text(x, "loses kind + number - 1;");
        x.by(2);
        Check.due("all", x.odds(1, false), 1);
        Check.due("of one", x.odds(1, true), 1);
        x = PromiseTest.ruled("loses 3;");
        x.block(4, 0);
        Check.due("nothing to come", x.odds(0, false), 1);
        Check.due("nothing to come", x.odds(0, true), 1);
    }

    private static void said() {
        PromiseTest.promise(48);
        LongCarrier x = new LongCarrier();
        for (int wrong : PromiseTest.wrongNumbers(-1, 4)) {
            Check.due("said(" + wrong + ", 0)", x.said(wrong, 0), -2);
        }
        for (int wrong : PromiseTest.wrongNumbers(0, 10)) {
            Check.due("said(0, " + wrong + ")", x.said(0, wrong), -2);
        }
        for (int n = 1; n <= 8; n++) {
            Check.due("said", x.said(n % 5, n), n);
        }
        Check.due("a ninth", x.said(0, 0), -2);
        Check.due("as many", x.about(4), 8);
        Check.due("none any more", x.said(-1, 0), 0);
        Check.due("none any more", x.about(4), 0);
        Check.due("said(4, 10)", x.said(4, 10), 1);
        Check.due("said(0, 0)", x.said(0, 0), 2);
    }

    private static void whose() {
        PromiseTest.promise(49);
        LongCarrier x = new LongCarrier();
        Check.due("no TEXT", x.whose(), 0);
        Check.text(x, "loses 2;");
        Check.text(x, "waits 9;");
        Check.text(x, "loses kind + bytes + number;");
        Check.text(x, "loses clock * 4;");
        Check.due("nothing SAID", x.whose(), 15);
        x.said(2, 2);
        Check.due("one SAID", x.whose(), 7);
        x.said(3, 2);
        Check.due("two SAID", x.whose(), 3);
        x.said(3, 3);
        Check.due("none any more", x.whose(), 0);
        x.said(-1, 0);
        x.said(0, 4);
        Check.due("not yet", x.whose(), 0);
        x.day(1);
        Check.due("as now", x.whose(), 8);
        x.said(1, 4);
        Check.due("of each kind", x.whose(), 8);
    }
}
