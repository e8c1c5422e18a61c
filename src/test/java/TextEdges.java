/** The edges of part II: TOKENS, CLAUSES, FAULTS, what a law answers, PLAYED. */
final class TextEdges {
    private TextEdges() {
    }

    static void run() {
        fourTexts();
        threeHundredBytes();
        blanks();
        betweenTokens();
        letters();
        theLongest();
        numbers();
        toldNumbers();
        clausesInAll();
        eachOnce();
        endings();
        ofOneTheLeast();
        theNinthOfEachSort();
        whatIsNoLongerOpen();
        whereNoneCanStand();
        namesOfTheClause();
        whatNamesAre();
        leftToRight();
        capped();
        cuts();
        bytesOfOthers();
        losesBounds();
        waitsBounds();
        comparisons();
        played();
        playedTicks();
    }

    private static void ok(String text) {
        ToldPromises.fault(text, 0, -1);
    }

    private static void bad(String text, int sort, int place) {
        ToldPromises.fault(text, sort, place);
    }

    private static String blanksTo(String text, int length) {
        return text + " ".repeat(length - text.length());
    }

    private static void fourTexts() {
        Edge.sentence("II. TEXTS 0 .. 3");
        LongCarrier x = new LongCarrier();
        x.block(1, 1);
        for (int text = 0; text < 4; text++) {
            Check.due("by, not told", x.by(text), false);
            Check.due("played, not told", x.played(text), -2);
            Check.due("with a FAULT it is none", Check.text(x, "loses"), -1);
            Check.due("text", Check.text(x, "loses " + (text + 3) + "; day " + (text + 1) + ";"), text);
            Check.due("TEXTS", x.about(1), text + 1);
        }
        Check.due("a fifth", Check.text(x, "loses 9;"), -1);
        int clock = 0;
        for (int text = 0; text < 4; text++) {
            Check.due("by", x.by(text), true);
            Check.due("loses", x.loses(0, 0), text + 3);
            Check.due("played", x.played(text), -1);
            clock += text + 1;
            Check.due("CLOCK", x.is(0), clock);
        }
        Check.due("by(4)", x.by(4), false);
        Check.due("played(4)", x.played(4), -2);
    }

    private static void threeHundredBytes() {
        Edge.sentence("II: of up to 300 bytes");
        ok(blanksTo("loses 1;", 300));
        ok(blanksTo("", 300));
        ok("");
        bad(blanksTo("loses 1;", 299) + "x", 1, 299);
        bad(blanksTo("loses 1", 300), 1, 300);
        bad(blanksTo("", 295) + "loses", 1, 300);
        String all = "loses 1" + "+1".repeat(146) + ";";
        Check.due("its length", all.length(), 300);
        ok(all);
        bad(all.substring(0, 299) + "<", 1, 299);
        bad(blanksTo("loses if 1", 299) + "<", 1, 300);
        bad(blanksTo("loses if 1", 298) + "<=", 1, 300);
        bad(blanksTo("loses 1", 299) + "9", 1, 299);
        bad(";".repeat(300), 1, 0);
        bad("(".repeat(300), 1, 0);
        bad("loses" + "-".repeat(295), 3, 13);
        bad("x".repeat(300), 1, 0);
        bad("1".repeat(300), 1, 0);
        LongCarrier x = new LongCarrier();
        for (int n = 0; n < 12; n++) {
            Check.due("one like the others", Check.text(x, all), 0);
            Check.due("one more", Check.text(x, all), 1);
            x.back();
        }
    }

    private static void blanks() {
        Edge.sentence("II: TOKENS, blanks (32, 10) aside; FAULT 1: it is none");
        for (int sign = 0; sign < 256; sign++) {
            if (sign == 32 || sign == 10) {
                ok((char) sign + "day 1;");
            } else {
                bad((char) sign + "day 1;", 1, 0);
            }
        }
    }

    private static void betweenTokens() {
        Edge.sentence("II: letters one behind the other (one TOKEN), digits likewise");
        for (int sign = 0; sign < 256; sign++) {
            String text = "day" + (char) sign + "1;";
            boolean letter = sign >= 'a' && sign <= 'z' || sign >= 'A' && sign <= 'Z';
            if (sign == 32 || sign == 10 || sign >= '0' && sign <= '2') {
                ok(text);
            } else if (sign >= '3' && sign <= '9') {
                bad(text, 2, 3);
            } else {
                bad(text, 1, letter ? 0 : 3);
            }
        }
        bad("d ay 1;", 1, 0);
        bad("day 1 2;", 1, 6);
        ok("day1;");
        ok("\nday\n1\n;\n");
        ok("loses1-1;waits(1);open0;cancel0by1;block1of1;");
    }

    private static void letters() {
        Edge.sentence("II: letters a .. z, A .. Z");
        for (String word : new String[] {"loses", "waits", "day", "open", "cancel", "block"}) {
            String rest = word.equals("cancel") ? " 0 by 1;" : word.equals("block") ? " 1 of 1;" : " 1;";
            ok(word + rest);
            bad(word.toUpperCase() + rest, 1, 0);
            bad(word + "a" + rest, 1, 0);
            bad(word + "z" + rest, 1, 0);
            bad(word + "A" + rest, 1, 0);
            bad(word + "Z" + rest, 1, 0);
            bad(word.substring(1) + rest, 1, 0);
            bad(word.substring(0, word.length() - 1) + rest, 1, 0);
        }
        bad("loses Sun;", 1, 6);
        bad("loses suns;", 1, 6);
        bad("loses if 1 = 1 THEN 2 else 3 end;", 1, 15);
        bad("loses if 1 = 1 the 2 else 3 end;", 1, 15);
    }

    private static void theLongest() {
        Edge.sentence("II: <= >= < > = # + - * / ( ) ; (the longest)");
        for (String sign : new String[] {"<", "<=", ">", ">=", "=", "#"}) {
            ok("loses if 1" + sign + "2 then 1 else 2 end;");
        }
        bad("loses if 1< =2 then 1 else 2 end;", 1, 12);
        bad("loses if 1> =2 then 1 else 2 end;", 1, 12);
        bad("loses if 1=<2 then 1 else 2 end;", 1, 11);
        bad("loses if 1=>2 then 1 else 2 end;", 1, 11);
        bad("loses if 1<>2 then 1 else 2 end;", 1, 11);
        bad("loses if 1<==2 then 1 else 2 end;", 1, 12);
        bad("loses if 1>==2 then 1 else 2 end;", 1, 12);
        bad("loses if 1##2 then 1 else 2 end;", 1, 11);
        bad("loses if 1<", 1, 11);
        bad("loses if 1<=", 1, 12);
        bad("loses 1**2;", 1, 8);
        bad("loses 1//2;", 1, 8);
        bad("loses 1++2;", 1, 8);
        ok("loses 1--2;");
    }

    private static void numbers() {
        Edge.sentence("II: NUMBERS, 0 .. 9999; FAULT 2: above 9999");
        ok("loses 0;");
        ok("loses 9999;");
        ok("loses 09999;");
        ok("loses 0000000000000000000000009999;");
        bad("loses 10000;", 2, 6);
        bad("loses 010000;", 2, 6);
        bad("loses 99999;", 2, 6);
        bad("loses 2147483648;", 2, 6);
        bad("loses 4294967296;", 2, 6);
        bad("loses 18446744073709551616;", 2, 6);
        bad("loses " + "0".repeat(200) + "10000;", 2, 6);
        bad("loses 1 + 2 * (3 - 10000);", 2, 19);
        bad("open 10000;", 2, 5);
        bad("day 65537;", 2, 4);
    }

    private static void toldNumbers() {
        Edge.sentence("II: FAULT 2: RED 0 .. 30, LENGTH 1 .. 30; LENGTH below RED");
        ok("block 0 of 1;");
        ok("block 0 of 30;");
        ok("block 30 of 30;");
        ok("block 1 of 1;");
        ok("block 15 of 15;");
        bad("block 0 of 0;", 2, 11);
        bad("block 0 of 31;", 2, 11);
        bad("block 30 of 31;", 2, 12);
        bad("block 31 of 30;", 2, 6);
        bad("block 31 of 31;", 2, 6);
        bad("block 30 of 29;", 2, 12);
        bad("block 1 of 0;", 2, 11);
        bad("block 16 of 15;", 2, 12);
        bad("block 5 of -5;", 1, 11);
        Edge.sentence("II: FAULT 2: BLOCKS 0 .. 2, sides 0, 1, TICKS 1 .. 30");
        for (int n = 0; n <= 2; n++) {
            ok("open " + n + ";");
            ok("cancel " + n + " by 0;");
        }
        bad("open 3;", 2, 5);
        bad("cancel 3 by 0;", 2, 7);
        ok("cancel 0 by 1;");
        bad("cancel 0 by 2;", 2, 12);
        bad("cancel 0 by 10;", 2, 12);
        bad("day 0;", 2, 4);
        ok("day 1;");
        ok("day 30;");
        bad("day 31;", 2, 4);
        bad("day sun;", 1, 4);
        bad("open -1;", 1, 5);
        bad("open;", 1, 4);
    }

    private static void clausesInAll() {
        Edge.sentence("II: {CLAUSE}, 24 at most; FAULT 6: the 25th CLAUSE (at its first TOKEN)");
        ok("open 0;".repeat(24));
        bad("open 0;".repeat(25), 6, 168);
        bad("open 0;".repeat(24) + "  open", 6, 170);
        bad("open 0;".repeat(24) + "block 99999", 6, 168);
        ok("loses 1;waits 1;" + "open 0;".repeat(22));
        bad("loses 1;waits 1;" + "open 0;".repeat(23), 6, 170);
        for (String word : new String[] {"loses", "waits", "block", "open", "cancel", "day"}) {
            bad("open 0;".repeat(24) + word, 6, 168);
        }
        bad("open 0;".repeat(24) + ";", 1, 168);
        bad("open 0;".repeat(24) + "by", 1, 168);
        bad("open 0;".repeat(24) + "1", 1, 168);
        bad("open 0;".repeat(23) + "open 3;" + "open 0;", 2, 166);
        LongCarrier x = new LongCarrier();
        Check.due("the 24th is played", Check.text(x, "day 1;".repeat(23) + "open 0;"), 0);
        Check.due("its number", x.played(0), 23);
    }

    private static void eachOnce() {
        Edge.sentence("II: loses, waits (each once); FAULT 4: for the second time (at it)");
        ok("loses 1; waits 1;");
        ok("waits 1; loses 1;");
        bad("loses 1; loses 1;", 4, 9);
        bad("waits 1; waits 1;", 4, 9);
        bad("loses 1; day 1; waits 1; day 1; loses", 4, 32);
        bad("loses 1; waits 1; waits 1; loses 1;", 4, 18);
        bad("loses loses 1;", 1, 6);
        bad("loses 1; x loses 1;", 1, 9);
        bad("loses 0; loses 1;", 4, 9);
        // the next TEXT begins anew
        LongCarrier x = new LongCarrier();
        Check.due("loses", Check.text(x, "loses 1; waits 1;"), 0);
        Check.due("loses in another", Check.text(x, "loses 1; waits 1;"), 1);
        Check.due("one with a FAULT", Check.text(x, "loses 1; waits 1; x"), -1);
        Check.due("loses behind it", Check.text(x, "loses 1; waits 1;"), 2);
    }

    private static void endings() {
        Edge.sentence("II: FAULTS at the TOKEN's first byte (of the end at the length)");
        String[] begun = {"l", "loses", "loses 1", "loses (", "loses (1", "loses -", "loses claimed", "loses if", "loses if 1",
            "loses if 1 =", "loses if 1 = 1", "loses if 1 = 1 then", "loses if 1 = 1 then 1 else 2", "block", "block 1",
            "block 1 of", "block 1 of 2", "open", "open 1", "cancel", "cancel 1", "cancel 1 by", "cancel 1 by 1", "day", "day 1"};
        for (String text : begun) {
            int place = text.equals("l") ? 0 : text.length();
            bad(text, 1, place);
            bad(text + " \n ", 1, place == 0 ? 0 : place + 3);
            bad(" \n" + text, 1, place + 2);
            bad("day 30;" + text, 1, place + 7);
        }
        bad("  xyz", 1, 2);
        bad("loses  10000", 2, 7);
        bad("loses 1 ;  ;", 1, 11);
    }

    private static void ofOneTheLeast() {
        Edge.sentence("II: FAULTS, the first as TOKENS are come to, of one the least");
        bad("open 0;".repeat(22) + "loses 1; waits 1; loses 1;", 4, 172);
        bad("open 0;".repeat(22) + "loses 1; waits 1; waits 1;", 4, 172);
        bad("open 0;".repeat(24) + "loses 1;", 6, 168);
        bad("loses 1 10000;", 1, 8);
        bad("loses 1 tried;", 1, 8);
        bad("loses ((((((((1 (", 1, 16);
        bad("loses tried + 10000;", 5, 6);
        bad("loses 10000 + tried;", 2, 6);
        bad("day 31 31", 2, 4);
        bad("open 3 x", 2, 5);
        bad("block 31 by", 2, 6);
        bad("block 1 by 31", 1, 8);
        bad("x open 3", 1, 0);
    }

    private static void theNinthOfEachSort() {
        Edge.sentence("II: FAULT 3: the 9th of ( not claimed come if and - that are open around one another (at it)");
        String[] opens = {"(", "- ", "claimed ", "come ", "if 1=1 then ", "if ", "if 1=1 then 1 else "};
        for (String open : opens) {
            for (String last : opens) {
                String eight = "loses " + open.repeat(8);
                bad(eight + last, 3, eight.length());
                String seven = "loses " + open.repeat(7);
                bad(seven + last, 1, seven.length() + last.trim().length() + (last.endsWith(" ") ? 1 : 0));
            }
            bad("loses " + open.repeat(8) + ")", 1, 6 + 8 * open.length());
        }
        bad("loses if not not not not not not not", 1, 36);
        bad("loses if not not not not not not not not", 3, 37);
        bad("loses (((((((if not", 3, 16);
        bad("loses ((((((if not (", 3, 19);
        bad("loses ((((((if not -", 3, 19);
        bad("loses ((((((if not if", 3, 19);
        bad("loses ((((((if not come", 3, 19);
        bad("loses ((((((if not claimed", 3, 19);
        bad("waits ((((((((if 1 = 1 then 1 else 1 end))))))));", 3, 14);
        ok("waits (((((((if 1 = 1 then 1 else 1 end)))))));");
    }

    private static void whatIsNoLongerOpen() {
        Edge.sentence("II: FAULT 3: that are open around one another (what has ended is not)");
        ok("loses ((((((((1))))))))+((((((((1))))))))*((((((((1))))))));");
        ok("loses --------1---------1;");
        ok("loses " + "(1)+".repeat(40) + "1;");
        ok("loses " + "-1".repeat(40) + ";");
        ok("loses " + "1-".repeat(40) + "1;");
        ok("loses " + "come 1+claimed 1+".repeat(14) + "1;");
        ok("loses claimed come claimed come claimed come claimed come 1 + claimed come claimed come claimed come claimed come 2;");
        ok("loses (((((((if 1=1 then 1 else 1 end + if 1=1 then 1 else 1 end)))))));");
        bad("loses (((((((if 1=1 then 1 else 1 end + if (", 3, 43);
        ok("loses ((((((if not 1=1 and not 1=1 or not 1=1 then (1) else (1) end))))));");
        ok("loses ((((((if not 1=1 then (1) else (1) end))))));");
        bad("loses ((((((if not (1)=1 then 1 else 1 end))))));", 3, 19);
        ok("loses ((((((if (1)=(1) and (1)=(1) then 1 else 1 end))))));");
        // both sides of what not stands ahead of are in it
        bad("loses ((((((if not 1=(1) then 1 else 1 end))))));", 3, 21);
        // an if is open until its end
        bad("loses (((((((if 1=1 then 1 else (1) end)))))));", 3, 32);
        bad("loses (((((((if 1=1 then (1) else 1 end)))))));", 3, 25);
        // a - is open for its ONE alone
        ok("loses (((((((-1*(1))))))));");
        bad("loses (((((((-(1))))))));", 3, 14);
    }

    private static void whereNoneCanStand() {
        Edge.sentence("II: FAULT 1: it can't stand there");
        String[] none = {")", "*", "/", "+", ";", "<", "<=", "=", "#", "then", "else", "end", "and", "or", "not", "of", "by", "loses",
            "waits", "block", "open", "cancel", "day", "foo"};
        for (String token : none) {
            bad("loses " + token, 1, 6);
            bad("loses ( " + token, 1, 8);
            bad("loses 1 * " + token, 1, 10);
        }
        String[] behind = {"(", "1", "sun", "claimed", "come", "if", "then", "else", "end", "and", "or", "not", "of", "by", "<", "=",
            ")", "loses", "day", "foo"};
        for (String token : behind) {
            bad("loses 1 " + token, 1, 8);
            bad("open 1 " + token, 1, 7);
        }
        String[] start = {"(", "1", "sun", "claimed", "if", "then", "of", "by", ";", "-", "not", "foo"};
        for (String token : start) {
            bad(token, 1, 0);
            bad("day 1;" + token, 1, 6);
        }
        bad("loses if 1 = 1 else 2 end;", 1, 15);
        bad("loses if 1 = 1 then 1 end;", 1, 22);
        bad("loses if 1 = 1 then 1 else 2;", 1, 28);
        bad("loses if 1 then 2 else 3 end;", 1, 11);
        bad("loses if (1 = 1) then 2 else 3 end;", 1, 12);
        bad("loses if 1 = 1 = 1 then 2 else 3 end;", 1, 15);
        bad("loses if 1 = not 1 = 1 then 2 else 3 end;", 1, 13);
        bad("loses if and", 1, 9);
        bad("loses if 1 = 1 or then 2 else 3 end;", 1, 18);
        bad("loses if 1 = 1 and then 2 else 3 end;", 1, 19);
        bad("loses if not then 2 else 3 end;", 1, 13);
        bad("loses if 1 = then 2 else 3 end;", 1, 13);
        bad("loses if 1 = 1 then else 3 end;", 1, 20);
        bad("loses if 1 = 1 then 2 else end;", 1, 27);
        bad("loses if 1 = 1 and or", 1, 19);
        bad("loses if 1 = 1 not", 1, 15);
    }

    private static void namesOfTheClause() {
        Edge.sentence("II: NAMES: clock, sun, kind, number, delay in both; bytes in loses; tried in waits; FAULT 5");
        for (String name : new String[] {"clock", "sun", "kind", "number", "delay"}) {
            ok("loses " + name + ";");
            ok("waits " + name + ";");
            bad("day " + name, 1, 4);
        }
        ok("loses bytes;");
        ok("waits tried;");
        bad("loses tried;", 5, 6);
        bad("waits bytes;", 5, 6);
        ok("loses bytes; waits tried;");
        ok("waits tried; loses bytes;");
        bad("waits tried; loses tried;", 5, 19);
        bad("loses bytes; waits if 1 = bytes", 5, 26);
        bad("tried", 1, 0);
        bad("loses 1 bytes", 1, 8);
    }

    private static void whatNamesAre() {
        Edge.sentence("II: NAMES: clock, sun, kind, number (of the BLOCK), delay; tried (at either end)");
        LongCarrier x = PromiseTest.ruled("waits if kind = 0 then clock / 200 + 1 else if kind = 1 then sun / 200 + 1 else"
            + " if kind = 2 then number + 5 else if kind = 3 then delay + 5 else tried + kind end end end end;");
        for (int block = 0; block < 3; block++) {
            x.block(1, 1);
        }
        Check.due("clock at 0", x.waits(0, 0, 0), 1);
        Check.due("sun at 0", x.waits(0, 1, 0), 1);
        for (int block = 0; block < 3; block++) {
            Check.due("number", x.waits(block, 2, 0), block + 5);
        }
        for (int delay : new int[] {1, 2, 20}) {
            x.delay(delay);
            Check.due("delay", x.waits(0, 3, 0), delay + 5);
        }
        for (int tried = 0; tried <= 9; tried++) {
            Check.due("tried", x.waits(0, 4, tried), tried + 4);
        }
        x.window(2, 0, 1);
        for (int left = 9999; left > 0; left -= 30) {
            x.day(Math.min(30, left));
        }
        Check.due("clock at 9999", x.waits(0, 0, 0), 50);
        Check.due("sun at 5000", x.waits(0, 1, 0), 26);
    }

    /** waits is such, of BLOCK 0 (10 bytes, 6 red), a REPORT, tried 7 times, at CLOCK and SUN 0. */
    private static void is(String sum, int want) {
        LongCarrier x = PromiseTest.ruled("waits " + sum + ";");
        x.block(10, 6);
        Check.due(sum, x.waits(0, 1, 7), want);
    }

    private static void leftToRight() {
        Edge.sentence("II: From the left");
        is("50-20-10", 20);
        is("50-20+10", 40);
        is("50+20-10-10", 50);
        is("48/4/2", 6);
        is("48/4*2", 24);
        is("7*4/8", 3);
        is("7/8*40", 1);
        is("50-20/10", 48);
        is("5*4-20/10", 18);
        is("10--20", 30);
        is("30+-20", 10);
        is("-5*-5", 25);
        is("60/-5+20", 8);
        is("-2-3+10", 5);
        is("-(2-3)+10", 11);
    }

    private static void capped() {
        Edge.sentence("II: what is above 1000000 (below the same less) is that, at each step");
        is("(9999*100+100)/2000/10", 50);
        is("9999*100+100-9999*100-60", 40);
        is("9999*100+101-9999*100-60", 40);
        is("9999*100+99-9999*100-60", 39);
        is("1000*1000-9999*100-60", 40);
        is("1001*1000-9999*100-60", 40);
        is("-1000*1000+9999*100+140", 40);
        is("-1001*1000+9999*100+140", 40);
        is("-9999*100-100+9999*100+140", 40);
        is("-9999*100-101+9999*100+140", 40);
        is("-9999*100-99+9999*100+140", 41);
        is("-(9999*9999)+9999*100+140", 40);
        is("9999*9999*9999*9999*9999/9999/2", 50);
        is("9999*-9999*9999*-9999/9999/2", 50);
        is("9999*9999-9999*9999+33", 33);
        is("9999*9999+9999*9999-9999*100-60", 40);
        is("-(9999*9999)-9999*9999+9999*100+140", 40);
        is("if 9999*9999 = 1000*1000 then 20 else 30 end", 20);
        is("if 9999*-9999 = -1000*1000 then 20 else 30 end", 20);
        is("if 9999*100+100 > 9999*100+99 then 20 else 30 end", 20);
    }

    private static void cuts() {
        Edge.sentence("II: / cuts towards 0, by 0 it is 0");
        is("7/2+10", 13);
        is("-7/2+10", 7);
        is("7/-2+10", 7);
        is("-7/-2+10", 13);
        is("1/2+10", 10);
        is("-1/2+10", 10);
        is("10+7/0", 10);
        is("10+-7/0", 10);
        is("10+0/0", 10);
        is("10+7/(3-3)*5", 10);
        is("10+9999*9999/0", 10);
        is("7/7", 1);
        is("49/7", 7);
    }

    private static void bytesOfOthers() {
        Edge.sentence("II: claimed ONE (how many bytes of the BLOCK of that number are; 0 for others), come ONE (how many have)");
        // of BLOCK 0 six bytes are CLAIMED, ten have come; of BLOCK 2 none and four
        String[] sums = {"claimed 0", "come 0", "claimed 1", "come 1", "claimed 2", "come 2", "claimed 3", "come 3", "claimed -1",
            "come -1", "claimed 9999", "come 9999", "come (9999*9999)", "come (0-9999*9999)", "claimed number", "come (number+2)"};
        int[] want = {6, 10, 0, 0, 0, 4, 0, 0, 0, 0, 0, 0, 0, 0, 6, 4};
        for (int i = 0; i < sums.length; i++) {
            LongCarrier x = PromiseTest.ruled("loses 0;");
            Check.text(x, "waits 20 + " + sums[i] + ";");
            x.block(10, 6);
            x.block(5, 5);
            x.block(5, 5);
            x.open(0);
            x.day(9);
            x.open(2);
            x.day(3);
            x.by(1);
            Check.due(sums[i], x.waits(0, 0, 0), 20 + want[i]);
        }
        is("20 + claimed 0", 20);
        is("20 + come - - 0", 20);
    }

    private static void losesBounds() {
        Edge.sentence("II: loses: 0 at least, 10 at most; without: 2");
        int[] sums = {-9999, -1, 0, 1, 9, 10, 11, 9999};
        for (int sum : sums) {
            LongCarrier x = PromiseTest.ruled("loses 0 + " + (sum < 0 ? "-" : "") + Math.abs(sum) + ";");
            x.block(1, 1);
            Check.due("loses " + sum, x.loses(0, 0), Math.max(0, Math.min(10, sum)));
        }
        LongCarrier x = PromiseTest.ruled("waits 9; day 1;");
        x.block(1, 1);
        for (int kind = 0; kind <= 4; kind++) {
            Check.due("without", x.loses(0, kind), 2);
        }
        x.by(-1);
        Check.due("without a TEXT", x.loses(0, 0), 2);
        Edge.sentence("II: bytes (how many it has; 0, if it isn't data) in loses");
        // data of 1 and 2 bytes, then a cancelling, each lost just if bytes says otherwise
        x = PromiseTest.ruled("loses if kind = 0 and bytes = 4 - 2 * clock or kind = 3 and bytes = 0 then 0 else 10 end;");
        x.block(6, 6);
        x.open(0);
        x.day(2);
        Check.due("of 4 and of 2 bytes", x.is(4), 0);
        x.cancel(0, 0);
        x.day(1);
        Check.due("of a cancelling", x.is(4), 0);
        Check.due("asked for no bytes", x.loses(0, 0), 10);
    }

    private static void waitsBounds() {
        Edge.sentence("II: waits: 1 at least, 60 at most; without: twice DELAY and 2");
        int[] sums = {-9999, -1, 0, 1, 2, 59, 60, 61, 9999};
        for (int sum : sums) {
            LongCarrier x = PromiseTest.ruled("waits 0 + " + (sum < 0 ? "-" : "") + Math.abs(sum) + ";");
            x.block(1, 1);
            Check.due("waits " + sum, x.waits(0, 0, 0), Math.max(1, Math.min(60, sum)));
        }
        LongCarrier x = PromiseTest.ruled("loses 9; day 1;");
        x.block(1, 1);
        for (int delay : new int[] {1, 2, 19, 20}) {
            x.delay(delay);
            Check.due("without", x.waits(0, 0, 0), 2 * delay + 2);
            Check.due("without", x.waits(0, 4, 9), 2 * delay + 2);
        }
    }

    private static void comparisons() {
        Edge.sentence("II: SUM one of < <= > >= = # (unlike) SUM; not, and, or");
        String[] signs = {"<", "<=", ">", ">=", "=", "#"};
        for (int left = -1; left <= 1; left++) {
            for (String sign : signs) {
                boolean less = left < 0 && (sign.equals("<") || sign.equals("<=") || sign.equals("#"));
                boolean like = left == 0 && (sign.equals("<=") || sign.equals(">=") || sign.equals("="));
                boolean more = left > 0 && (sign.equals(">") || sign.equals(">=") || sign.equals("#"));
                String ask = (left < 0 ? "-1" : String.valueOf(left)) + sign + "0";
                is("if " + ask + " then 2 else 3 end", less || like || more ? 2 : 3);
                is("if not " + ask + " then 2 else 3 end", less || like || more ? 3 : 2);
            }
        }
        String[] asks = {"1=2", "1=1"};
        for (int a = 0; a < 2; a++) {
            for (int b = 0; b < 2; b++) {
                is("if " + asks[a] + " and " + asks[b] + " then 2 else 3 end", a + b == 2 ? 2 : 3);
                is("if " + asks[a] + " or " + asks[b] + " then 2 else 3 end", a + b > 0 ? 2 : 3);
                for (int c = 0; c < 2; c++) {
                    is("if " + asks[a] + " or " + asks[b] + " and " + asks[c] + " then 2 else 3 end", a + b * c > 0 ? 2 : 3);
                    is("if " + asks[a] + " and " + asks[b] + " or " + asks[c] + " then 2 else 3 end", a * b + c > 0 ? 2 : 3);
                    is("if not " + asks[a] + " and " + asks[b] + " or " + asks[c] + " then 2 else 3 end", (1 - a) * b + c > 0 ? 2 : 3);
                }
            }
        }
        Edge.sentence("II: if EITHER then SUM else SUM end (just the SUM that is chosen)");
        is("if 1=1 then 2+3*4 else 5 end", 14);
        is("if 1=2 then 2+3*4 else 5 end", 5);
        is("2*if 1=2 then 3 else 5 end+1", 11);
        is("if 1=1 then if 1=2 then 2 else 3 end else 4 end", 3);
        is("if 1=2 then 2 else if 1=1 then 3 else 4 end end", 3);
        is("-if 1=1 then -7 else 2 end", 7);
    }

    private static void played() {
        Edge.sentence("II: PLAYED: its CLAUSES but laws, in their order; one that can't be ends it: its number among all CLAUSES (from 0)");
        LongCarrier x = new LongCarrier();
        Check.text(x, "open 0; day 1;");
        Check.text(x, "loses 0; waits 9; open 0; day 1;");
        Check.text(x, "block 1 of 1; loses 0; open 0; open 0; day 1;");
        Check.due("the first can't be", x.played(0), 0);
        Check.due("laws count", x.played(1), 2);
        Check.due("nothing is done", x.is(0) + x.about(3), 0);
        Check.due("what was done stays", x.played(2), 3);
        Edge.of(x, 0, 1, 1, 1, 0);
        Check.due("one behind it isn't", x.is(0), 0);
        Check.due("its law isn't told", x.about(2), -1);
        Check.text(x, "cancel 0 by 1; cancel 0 by 0; day 30;");
        Check.due("all is done", x.played(3), -1);
        Check.due("CLOCK", x.is(0), 30);
        Check.due("again", x.played(3), 0);
        Check.due("CLOCK", x.is(0), 30);
        x = new LongCarrier();
        Check.text(x, "loses 1; waits 1;");
        Check.text(x, "");
        Check.text(x, "block 0 of 1;".repeat(4));
        Check.due("laws alone", x.played(0), -1);
        Check.due("nothing", x.played(1), -1);
        Check.due("a fourth BLOCK", x.played(2), 3);
        Check.due("three", x.about(0), 3);
        Check.due("others", x.played(3), -2);
        Check.due("others", x.played(-1), -2);
    }

    private static void playedTicks() {
        Edge.sentence("II: PLAYED (of so many TICKS those that can pass do)");
        for (int clock : new int[] {9968, 9969, 9970, 9998, 9999}) {
            LongCarrier x = new LongCarrier();
            Check.text(x, "loses 0; day 30; day 1;");
            for (int left = clock; left > 0; left -= 30) {
                x.day(Math.min(30, left));
            }
            Check.due("at " + clock, x.played(0), clock == 9968 ? -1 : clock == 9969 ? 2 : 1);
            Check.due("CLOCK", x.is(0), 9999);
            Check.due("steps", x.about(3), 30);
        }
        LongCarrier x = Edge.fresh();
        Check.text(x, "day 1;");
        x.played(0);
        Check.due("a step", x.about(3), 1);
    }
}
