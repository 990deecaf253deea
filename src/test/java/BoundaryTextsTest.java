/** Section 7 and promises 2 to 6 and 17: each error of a fund text or a script text, code and position. */
final class BoundaryTextsTest {
    private static final Tester T = new Tester("BoundaryTextsTest");
    private static final String FUND = "fund series 10 20 50;";
    private static final String START = FUND + "investors 2;";

    public static void main(String[] args) {
        rangesOfNumbers();
        sevenDigits();
        tokensThatCannotStand();
        endsOfTheText();
        theLowestCodeApplies();
        theFirstErrorCounts();
        subscriptionsAtTheirLimit();
        blanksAndBytes();
        theLengthOfTheBuffer();
        scriptTokens();
        scriptEnds();
        scriptOperations();
        scriptsSeeTheirOwnChanges();
        T.end();
    }

    private static void right(String text, int subscriptions) {
        SeriesFund x = new SeriesFund();
        T.due("parseFund() of " + text, Tester.parse(x, text), subscriptions);
        T.due("error after " + text, x.errorCode() + " " + x.errorPosition(), "0 -1");
    }

    private static void error(String text, int code, int position) {
        SeriesFund x = Tester.fund("fund equal 1 2 3;investors 4;subscribe 3 500;");
        String before = Tester.stateOf(x);
        T.due("parseFund() of " + text, Tester.parse(x, text), -1);
        T.due("error of " + text, x.errorCode() + " " + x.errorPosition(), code + " " + position);
        T.due("state after " + text, Tester.stateOf(x), before);
        T.argument("the buffer is empty", () -> x.truncateText(1));
    }

    /** An error at the last token of the part of the text before the stroke. */
    private static void errorAt(String text, int code) {
        int stroke = text.indexOf('|');
        error(text.substring(0, stroke) + text.substring(stroke + 1), code, stroke);
    }

    private static void rangesOfNumbers() {
        right("fund series 0 0 1;investors 1;", 0);
        right("fund series 9999 50 100;investors 6;subscribe 5 9999999;subscribe 0 1;", 2);
        errorAt("fund series |10000 0 1;investors 1;", 2);
        errorAt("fund series 0 |51 1;investors 1;", 2);
        errorAt("fund series 0 0 |0;investors 1;", 2);
        errorAt("fund series 0 0 |101;investors 1;", 2);
        errorAt(FUND + "investors |0;", 2);
        errorAt(FUND + "investors |7;", 2);
        right(START + "subscribe 1 5;", 1);
        errorAt(START + "subscribe |2 5;", 2);
        errorAt(START + "subscribe 1 |0;", 2);
        errorAt(START + "subscribe 1 |0000000;", 2);
        errorAt(START + "subscribe 1 5;subscribe 0 5;subscribe |6 5;", 2);
        errorAt(FUND + "investors 6;subscribe 5 1;subscribe |6 1;", 2);
        errorAt(FUND + "investors 1;subscribe |1 1;", 2);
    }

    private static void sevenDigits() {
        right("fund series 0009999 0000050 0000100;investors 0000006;subscribe 0000005 0000001;", 1);
        for (String number : new String[] {"00000001", "10000000", "99999999999", "4294967297", "18446744073709551617"}) {
            errorAt("fund series |" + number + " 20 50;investors 2;", 2);
            errorAt("fund series 10 |" + number + " 50;investors 2;", 2);
            errorAt("fund series 10 20 |" + number + ";investors 2;", 2);
            errorAt(FUND + "investors |" + number + ";", 2);
            errorAt(START + "subscribe |" + number + " 5;", 2);
            errorAt(START + "subscribe 1 |" + number + ";", 2);
        }
        errorAt("fund series 10 |00000000 50;investors 2;", 2);
        errorAt(START + "subscribe |00000000 5;", 2);
    }

    private static void tokensThatCannotStand() {
        String[] tokens = {"fund", "series", "10", "20", "50", ";", "investors", "2", ";", "subscribe", "1", "700", ";"};
        for (int place = 0; place < tokens.length; place++) {
            for (String other : new String[] {"word", "fundx", "subscrib", "!", "-", ".", ";", "5", "series", "fund",
                "investors", "subscribe", "redeem", "deal", "\t", "\r", "\0", "A", "" + (char) 255}) {
                boolean number = tokens[place].matches("[0-9]+") && other.equals("5");
                boolean same = tokens[place].equals(other);
                if (!number && !same) {
                    errorAt(joined(tokens, place, other), 1);
                }
            }
        }
        right("fund series 10 20 50;investors 2;subscribe 1 700;", 1);
        errorAt("fund |equals 10 20 50;investors 2;", 1);
        errorAt("fund |equa 10 20 50;investors 2;", 1);
        errorAt("fund |equalinvestors 2;", 1);
        errorAt("|fundseries 10 20 50;investors 2;", 1);
        errorAt("fund series 10 20 50|.5;investors 2;", 1);
        errorAt(START + "subscribe 1 5 |6;", 1);
        errorAt(START + "|investors 2;", 1);
        errorAt(START + "|" + START, 1);
        errorAt(FUND + "|;investors 2;", 1);
        errorAt(START + "|;", 1);
    }

    private static String joined(String[] tokens, int place, String other) {
        StringBuilder out = new StringBuilder();
        for (int i = 0; i < tokens.length; i++) {
            out.append(i == place ? "|" + other : tokens[i]).append(' ');
        }
        return out.toString();
    }

    /** A text that ends after some of its tokens is right only where the next statement may be left out. */
    private static void endsOfTheText() {
        String[] tokens = {"fund", "equal", "1", "2", "3", ";", "investors", "4", ";", "subscribe", "3", "5", ";"};
        String text = "";
        for (int length = 0; length <= tokens.length; length++) {
            for (String end : new String[] {"", " ", "\n \n"}) {
                if (length == 9 || length == 13) {
                    right(text + end, length == 9 ? 0 : 1);
                } else {
                    error(text + end, 1, text.length() + end.length());
                }
            }
            text += (length == 0 ? "" : " ") + (length < tokens.length ? tokens[length] : "");
        }
    }

    private static String many(int subscriptions) {
        StringBuilder out = new StringBuilder(START);
        for (int i = 0; i < subscriptions; i++) {
            out.append("subscribe ").append(i % 2).append(' ').append(i + 10).append(';');
        }
        return out.toString();
    }

    private static void theLowestCodeApplies() {
        errorAt("|123456789 series 1 1 1;", 1);
        errorAt("fund |123456789 1 1 1;", 1);
        errorAt("fund series 1 1 1 |123456789;", 1);
        errorAt(START + "subscribe 1 1 |123456789;", 1);
        errorAt(START + "|12345678;", 1);
        errorAt(many(12) + "|12345678;", 1);
        errorAt(many(12) + "|subscriber 0 1;", 1);
        errorAt(many(12) + "|investors 2;", 1);
        errorAt(many(12) + "|;", 1);
    }

    private static void theFirstErrorCounts() {
        errorAt("fund series |10000 51 0;investors 7;", 2);
        errorAt("fund series 1 |51 x", 2);
        errorAt("fund series 1 1 |x 0;investors 9;", 1);
        errorAt(START + "subscribe |2 0;subscribe x;", 2);
        errorAt(START + "subscribe 1 |10000000!", 2);
        errorAt("|fond series 10000;", 1);
    }

    private static void subscriptionsAtTheirLimit() {
        right(many(0), 0);
        right(many(11), 11);
        right(many(12), 12);
        errorAt(many(12) + "|subscribe 0 10;", 3);
        errorAt(many(12) + " \n|subscribe 0 10;", 3);
        errorAt(many(12) + "|subscribe", 3);
        errorAt(many(12) + "|subscribe 9 0;", 3);
        errorAt(many(12) + "|subscribe subscribe", 3);
        errorAt(many(11) + "subscribe |2 10;subscribe 0 10;", 2);
    }

    private static void blanksAndBytes() {
        right("  fund\n\nseries 0 0 1 \n;\ninvestors\n3\n;\n subscribe\n2 \n7\n;\n\n", 1);
        right("fund series0 0 1;investors3;subscribe2 7;", 1);
        right("fund equal0\n0\n1;investors3;", 0);
        for (char other : new char[] {0, 9, 11, 12, 13, 31, 33, '/', ':', '<', '@', 'A', 'Z', '[', '`', '{', 127, 128,
            160, 200, 255}) {
            errorAt("|" + other + START, 1);
            errorAt("fund series |" + other + "10 20 50;investors 2;", 1);
            errorAt("fund series 10|" + other + " 20 50;investors 2;", 1);
            errorAt(START + "|" + other, 1);
            script("deal;" + other + "deal;", -6);
            script("deal" + other + ";", -5);
        }
        right("fund series 9 0 1;investors 3;subscribe 2 90;", 1);
    }

    /** All 400 characters count, and those that were cut off do not. */
    private static void theLengthOfTheBuffer() {
        right(START + " ".repeat(400 - START.length()), 0);
        error(START + "\n".repeat(366) + "a", 1, 399);
        error(START + " ".repeat(400 - START.length() - 13) + "subscribe 1 5", 1, 400);
        error("x".repeat(400), 1, 0);
        script("deal;".repeat(80), 80);
        script("deal;".repeat(79) + "deals", -396);
        script("deal;".repeat(79) + " deal", -401);
        script("deal;".repeat(78) + "   pass 12", -401);
        script("7".repeat(400), -1);
        script(" ".repeat(400), 0);
        SeriesFund x = new SeriesFund();
        cut(x, "deals;", 4);
        T.due("deal, cut", x.runScript(), -5);
        cut(x, "pass 12;", 6);
        T.due("pass 1, cut", x.runScript(), -7);
        cut(x, "deal;deal;deal", 10);
        T.due("deal;deal;, cut", x.runScript(), 2);
        cut(x, FUND + "investors 23;", FUND.length() + 11);
        T.due("investors 2, cut", x.parseFund() + " " + x.errorCode() + " " + x.errorPosition(), "-1 1 32");
        cut(x, START + "subscribe 1 10;", START.length());
        T.due("two statements, cut", x.parseFund() + " " + x.count(7), "0 0");
        cut(x, START, 0);
        T.due("all is cut", x.parseFund() + " " + x.errorCode() + " " + x.errorPosition(), "-1 1 0");
        T.due("a buffer that was read begins anew", x.appendText(0x64656c3b, 0, 0, 0, 0), 20);
    }

    private static void cut(SeriesFund x, String text, int length) {
        Tester.put(x, text);
        x.truncateText(length);
    }

    // ---- script texts

    private static SeriesFund scripted() {
        SeriesFund x = Tester.fund("fund series 10 20 50;investors 2;subscribe 0 1000000;");
        x.passDays(1);
        return x;
    }

    private static void script(String text, int answer) {
        SeriesFund x = scripted();
        String before = Tester.stateOf(x);
        T.due("runScript() of " + text, Tester.script(x, text), answer);
        T.due("undoDepth() after " + text, x.undoDepth(), answer < 0 ? 1 : 2);
        T.argument("the buffer is empty", () -> x.truncateText(1));
        if (answer >= 0) {
            x.undo();
        }
        T.due("state before " + text, Tester.stateOf(x), before);
    }

    private static void scriptTokens() {
        String[][] operations = {{"subscribe", "1", "50", ";"}, {"redeem", "0", "50", ";"}, {"deal", ";"},
            {"gain", "5", ";"}, {"lose", "5", ";"}, {"pass", "5", ";"}, {"crystallize", ";"}, {"merge", ";"}};
        String[] others = {"word", "!", "-", ";", "0000005", "00000005", "deal", "series", "fund", "\t", "D",
            "" + (char) 200};
        for (String[] operation : operations) {
            script("\n" + String.join(" ", operation) + " ", 1);
            script("merge;" + String.join("\n", operation) + "deal;", 3);
            for (int place = 0; place < operation.length; place++) {
                for (String other : others) {
                    boolean number = operation[place].matches("[0-9]+") && other.equals("0000005");
                    if (!number && !other.equals(operation[place])
                            && !(place == 0 && other.equals("deal") && operation.length == 2)) {
                        wrongToken(operation, place, other);
                    }
                }
            }
        }
        for (String word : new String[] {"subscrib", "subscribes", "redee", "redeems", "dea", "deals", "gai", "gains",
            "los", "losed", "pas", "passs", "crystallise", "crystallizes", "merg", "merged", "transfer", "setgate",
            "undo", "earn", "equal", "investors"}) {
            script("deal; " + word + " 1;", -7);
        }
    }

    /** A token that cannot stand there, or, in place of the word deal, one that is followed by a wrong one. */
    private static void wrongToken(String[] operation, int place, String other) {
        StringBuilder text = new StringBuilder("lose 1; ");
        int wrongAt = 0;
        for (int i = 0; i < operation.length; i++) {
            wrongAt = i == place ? text.length() : wrongAt;
            text.append(i == place ? other : operation[i]).append(' ');
        }
        boolean next = place == 0 && other.equals("deal");
        script(text.toString(), -1 - (next ? wrongAt + 5 : wrongAt));
    }

    private static void scriptEnds() {
        String[] tokens = {"subscribe", "1", "50", ";", "gain", "7", ";", "deal", ";"};
        String text = "";
        for (int length = 0; length <= tokens.length; length++) {
            for (String end : new String[] {"", " ", "\n"}) {
                int operations = length == 0 ? 0 : length == 4 ? 1 : length == 7 ? 2 : length == 9 ? 3 : -1;
                script(text + end, operations >= 0 ? operations : -1 - (text + end).length());
            }
            text += (length == 0 ? "" : " ") + (length < tokens.length ? tokens[length] : "");
        }
    }

    /** The least and the greatest numbers of each operation, and those beyond, which count at its word. */
    private static void scriptOperations() {
        String[] good = {"gain 0;", "gain 9999;", "lose 0;", "lose 9000;", "pass 1;", "pass 400;", "subscribe 0 1;",
            "subscribe 1 9999999;", "redeem 0 1;", "redeem 0 100000;"};
        String[] bad = {"gain 10000;", "gain 9999999;", "lose 9001;", "lose 9999999;", "pass 0;", "pass 401;",
            "subscribe 2 5;", "subscribe 9999999 5;", "subscribe 0 0;", "redeem 0 0;", "redeem 0 100001;",
            "redeem 0 9999999;", "redeem 1 1;", "redeem 2 1;"};
        for (String one : good) {
            script(one, 1);
            script("merge; " + one, 2);
        }
        for (String one : bad) {
            script(one, -1);
            script("merge; " + one, -8);
            // the semicolon is read first, so a wrong token before it counts first, and one behind it does not
            script(one + "!", -1);
            script(one.replace(";", " !"), -1 - one.length());
        }
        script("gain 9999;gain 9999;gain 9999;gain 9999;gain 9999;gain 9999;", 6);
        script("gain 9999;gain 9999;gain 9999;gain 9999;gain 9999;gain 9999;gain 9999;", -61);
        script("subscribe 0 1;".repeat(12), 12);
        script("subscribe 0 1;".repeat(12) + "subscribe 0 1;", -1 - 12 * 14);
        script("subscribe 0 1;".repeat(12) + "redeem 0 1;", -1 - 12 * 14);
        script("redeem 0 60000;redeem 0 40000;", 2);
        script("redeem 0 60000;redeem 0 40001;", -16);
    }

    private static void scriptsSeeTheirOwnChanges() {
        script("subscribe 1 100;deal;redeem 1 10;", 3);
        script("subscribe 1 100;deal;redeem 1 11;", -22);
        script("redeem 0 50000;deal;redeem 0 50000;", 3);
        script("redeem 0 50000;deal;redeem 0 50001;", -21);
        SeriesFund x = scripted();
        T.due("many", Tester.script(x, "pass 2;subscribe 1 100;deal;gain 100;subscribe 1 7;pass 1;crystallize;"), 7);
        T.due("day, lots and requests", x.count(5) + " " + x.lot(1, 5) + " " + x.request(0, 3), "4 3 3");
        T.due("an empty script is a change", Tester.script(x, "") + " " + x.undoDepth(), "0 3");
        T.due("undo()", x.undo() + " " + x.count(5), "2 4");
        T.due("undo() of the whole script", x.undo() + " " + x.count(5) + " " + x.count(7), "1 1 1");
    }
}
