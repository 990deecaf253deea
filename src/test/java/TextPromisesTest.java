/** Promises 1 to 6 and 17: a new object, the text buffer, fund texts and script texts. */
final class TextPromisesTest {
    private static final Tester T = new Tester("TextPromisesTest");
    private static final String NEW_STATE = "1 0 0 0 100 0 0 0 0 0\n0 0 0 0 0 0\n";
    private static final String START = "fund series 1 1 1;investors 2;";

    public static void main(String[] args) {
        promise1NewObject();
        promise2AppendText();
        promise3TruncateText();
        promise4ParseFund();
        promise4KeepsTheFundAfterAnError();
        promises5And6Errors();
        promises5And6Latest();
        promise17Operations();
        promise17WrongTexts();
        promise17IsOneChange();
        promise17WordsOfOperationsThatThrow();
        T.end();
    }

    private static void promise1NewObject() {
        SeriesFund x = new SeriesFund();
        T.due("state of a new object", Tester.stateOf(x), NEW_STATE);
        T.due("errorCode() of a new object", x.errorCode(), 0);
        T.due("errorPosition() of a new object", x.errorPosition(), -1);
        T.due("undoDepth() of a new object", x.undoDepth(), 0);
        T.due("NONE", SeriesFund.NONE, -1);
        T.index("reportByte(0) of a new object", () -> x.reportByte(0));
        T.argument("truncateText(1) of a new object", () -> x.truncateText(1));
        T.due("subscribing in a new object", x.subscribe(0, 1000), 0);
        T.due("dealing in a new object", x.deal(), 1);
        T.due("units", x.unitsOf(0), 100);
    }

    private static void promise2AppendText() {
        SeriesFund x = new SeriesFund();
        for (int length = 20; length <= 400; length += 20) {
            T.due("appendText to " + length, x.appendText(0, 0, 0, 0, 0), length);
        }
        T.state("appendText above 400", () -> x.appendText(0, 0, 0, 0, 0));
        T.due("the length stays", x.truncateText(400), 400);
        T.due("length 381", x.truncateText(381), 381);
        T.state("appendText from 381", () -> x.appendText(0, 0, 0, 0, 0));
        T.due("length 380", x.truncateText(380), 380);
        T.due("appendText from 380", x.appendText(0, 0, 0, 0, 0), 400);
        SeriesFund y = new SeriesFund();
        // "fund equal 7 8 9;inv" and "estors 3;" with its byte order
        y.appendText(0x66756e64, 0x20657175, 0x616c2037, 0x20382039, 0x3b696e76);
        y.appendText(0x6573746f, 0x72732033, 0x3b202020, 0x20202020, 0x0a0a0a0a);
        T.due("parseFund()", y.parseFund(), 0);
        T.due("state", Tester.stateOf(y), "3 1 7 8 9 0 0 0 0 0\n0 0 0 0 0 0\n");
        SeriesFund z = new SeriesFund();
        z.appendText(0xff80ffff, -1, -1, -1, -1);
        T.due("bytes above 127 begin no token", z.parseFund(), -1);
        T.due("their position", z.errorPosition(), 0);
    }

    private static void promise3TruncateText() {
        SeriesFund x = new SeriesFund();
        x.appendText(0, 0, 0, 0, 0);
        T.argument("truncateText(-1)", () -> x.truncateText(-1));
        T.argument("truncateText(21)", () -> x.truncateText(21));
        T.argument("truncateText(least)", () -> x.truncateText(Integer.MIN_VALUE));
        T.due("truncateText(20)", x.truncateText(20), 20);
        T.due("truncateText(7)", x.truncateText(7), 7);
        T.argument("truncateText(8)", () -> x.truncateText(8));
        T.due("appendText after it", x.appendText(0, 0, 0, 0, 0), 27);
        T.due("truncateText(0)", x.truncateText(0), 0);
        T.due("truncateText(0) again", x.truncateText(0), 0);
        Tester.put(x, "fund series 1 2 3;investors 4; subscribe");
        T.due("without the last word", x.truncateText(30), 30);
        T.due("the first characters are left", x.parseFund(), 0);
    }

    private static void promise4ParseFund() {
        SeriesFund x = new SeriesFund();
        T.due("parseFund()", Tester.parse(x, "fund series 9999 50 100;investors 6;"), 0);
        T.due("state", Tester.stateOf(x), "6 0 9999 50 100 0 0 0 0 0\n0 0 0 0 0 0\n");
        T.argument("the buffer is empty", () -> x.truncateText(1));
        T.due("least numbers, blanks and line feeds",
                Tester.parse(x, "\n fund\nequal 0\n0 0000001 ; investors1;\n "), 0);
        T.due("state", Tester.stateOf(x), "1 1 0 0 1 0 0 0 0 0\n0 0 0 0 0 0\n");
        T.due("subscriptions", Tester.parse(x,
                "fund series 0 20 100;investors 3;subscribe 2 1000;subscribe 0 9;subscribe 1 9999999;"), 3);
        // mark * units / 100000 is 10000990, so the fee is 20 percent of 9 cents
        T.due("state after the dealing", Tester.stateOf(x), "3 0 0 20 100 0 1 2 1 1\n0 0 10000999 0 0 0\n"
                + "s 0 10000999 1000099 1000000 1 1000000 1000000 0 2\n"
                + "l 2 0 100 1000000 0 0\nl 1 0 999999 1000000 0 0\nr 0 0 9 0\n");
        T.due("no change can be undone", x.undoDepth(), 0);
        T.due("words and numbers without blanks", Tester.parse(x,
                "fund equal0 0 1;investors1;subscribe0 10;subscribe0 20;"), 2);
        T.due("lots", x.count(7), 2);
        StringBuilder twelve = new StringBuilder(START);
        for (int i = 0; i < 12; i++) {
            twelve.append("subscribe 1 ").append(10 + i).append(';');
        }
        T.due("twelve subscriptions", Tester.parse(x, twelve.toString()), 12);
        T.due("lots of them", x.count(7), 12);
        T.due("a new fund starts anew", x.account(2), 12 * 10 + 66);
        Tester.parse(x, "fund series 9999 50 50;investors 2;subscribe 0 500000;");
        Tester.script(x, "pass 9;gain 900;redeem 0 5;deal;subscribe 0 7;crystallize;");
        T.due("days and fees", x.count(5) + " " + (x.account(0) > 0) + " " + (x.account(3) > 0), "9 true true");
        x.wouldCrystallize();
        T.due("after days and fees, too", Tester.parse(x, "fund equal 3 2 1;investors 1;subscribe 0 10;"), 1);
        T.due("state", Tester.stateOf(x), "1 1 3 2 1 0 1 1 0 1\n0 0 10 0 0 0\n"
                + "s 0 10 1 1000000 0 1000000 1000000 0 1\nl 0 0 1 1000000 0 0\n");
    }

    private static void promise4KeepsTheFundAfterAnError() {
        SeriesFund x = Tester.fund("fund equal 7 10 40;investors 2;subscribe 0 5000;");
        x.earn(300);
        x.subscribe(1, 77);
        String before = Tester.stateOf(x);
        T.due("a wrong text", Tester.parse(x, "fund series 1 1 1;investors 3;subscribe 0 5;subscribe 3 5;"), -1);
        T.due("the fund stays", Tester.stateOf(x), before);
        T.due("the changes can be undone", x.undoDepth(), 2);
        T.argument("the buffer is empty after an error", () -> x.truncateText(1));
        T.due("errorCode()", x.errorCode(), 2);
        T.due("errorPosition()", x.errorPosition(), 54);
        T.due("a right text", Tester.parse(x, "fund series 1 1 1;investors 3;"), 0);
        T.due("earlier changes are not undoable", x.undoDepth(), 0);
        T.state("undo() after it", x::undo);
    }

    private static void promises5And6Errors() {
        error("", 1, 0);
        error("   ", 1, 3);
        error("fund", 1, 4);
        error("fund ", 1, 5);
        error("Fund series 1 1 1;investors 2;", 1, 0);
        error("fund Series 1 1 1;investors 2;", 1, 5);
        error("funds series 1 1 1;investors 2;", 1, 0);
        error("fun series 1 1 1;investors 2;", 1, 0);
        error("hund series 1 1 1;investors 2;", 1, 0);
        error("fund beries 1 1 1;investors 2;", 1, 5);
        error("fund equals 1 1 1;investors 2;", 1, 5);
        error("fund 5 1 1 1;investors 2;", 1, 5);
        error("fund series;", 1, 11);
        error("fund series 10000 1 1;investors 2;", 2, 12);
        error("fund series 00000001 1 1;investors 2;", 2, 12);
        error("fund series 99999999999999999999 1 1;investors 2;", 2, 12);
        error("fund series 4294967296 1 1;investors 2;", 2, 12);
        error("fund series 1 51 1;investors 2;", 2, 14);
        error("fund series 1 1 0;investors 2;", 2, 16);
        error("fund series 1 1 101;investors 2;", 2, 16);
        error("fund series 1 1 1 investors 2;", 1, 18);
        error("fund series 1 1 1 1;investors 2;", 1, 18);
        error("fund series 1 1 1;", 1, 18);
        error("fund series 1 1 1;subscribe 0 5;", 1, 18);
        error("fund series 1 1 1;investors 0;", 2, 28);
        error("fund series 1 1 1;investors 7;", 2, 28);
        error("fund series 1 1 1;investors -1;", 1, 28);
        error("fund series 1 1 1;investors 2", 1, 29);
        error(START + "subscribe 2 5;", 2, 40);
        error(START + "subscribe 12345678 5;", 2, 40);
        error(START + "subscribe 1 0;", 2, 42);
        error(START + "subscribe 1 10000000;", 2, 42);
        error(START + "subscribe x 5;", 1, 40);
        error(START + "subscribe 1 5", 1, 43);
        error(START + "subscribe 1 5\n", 1, 44);
        error(START + "redeem 1 5;", 1, 30);
        error(START + ";", 1, 30);
        error(START + "12345678;", 1, 30);
        error(START + "\t", 1, 30);
        StringBuilder twelve = new StringBuilder(START);
        for (int i = 0; i < 12; i++) {
            twelve.append("subscribe 0 1;");
        }
        error(twelve + " subscribe 0 1;", 3, 199);
        error(twelve + "subscribe", 3, 198);
        error(twelve + "subscribes", 1, 198);
        error(twelve + "investors 2;", 1, 198);
        error(twelve + ";", 1, 198);
    }

    private static void error(String text, int code, int position) {
        SeriesFund x = new SeriesFund();
        T.due("parseFund() of " + text, Tester.parse(x, text), -1);
        T.due("errorCode() of " + text, x.errorCode(), code);
        T.due("errorPosition() of " + text, x.errorPosition(), position);
        T.due("state after " + text, Tester.stateOf(x), NEW_STATE);
    }

    private static void promises5And6Latest() {
        SeriesFund x = new SeriesFund();
        Tester.parse(x, "fund series 1 51 1;");
        T.due("errorCode()", x.errorCode(), 2);
        x.deal();
        x.undo();
        Tester.script(x, "deal");
        T.due("errorCode() stays", x.errorCode(), 2);
        T.due("errorPosition() stays", x.errorPosition(), 14);
        Tester.parse(x, START);
        T.due("errorCode() after a right text", x.errorCode(), 0);
        T.due("errorPosition() after a right text", x.errorPosition(), -1);
    }

    private static void promise17Operations() {
        SeriesFund x = Tester.fund("fund series 3650 20 100;investors 2;subscribe 0 1000000;");
        T.due("each operation", Tester.script(x, "subscribe 1 50000 ; redeem 0 60000;\ndeal;gain1000;"
                + "lose 100;pass 1;crystallize;merge;lose 0;gain 0;"), 10);
        SeriesFund y = Tester.fund("fund series 3650 20 100;investors 2;subscribe 0 1000000;");
        y.subscribe(1, 50000);
        y.redeem(0, 60000);
        y.deal();
        y.earn(1000);
        y.earn(-100);
        y.passDays(1);
        y.crystallize();
        y.merge();
        T.due("state after the operations", Tester.stateOf(x), Tester.stateOf(y));
        T.argument("the buffer is empty", () -> x.truncateText(1));
        T.due("no token", Tester.script(x, " \n"), 0);
        T.due("an empty text", Tester.script(x, ""), 0);
        T.due("both are changes", x.undoDepth(), 3);
    }

    private static void promise17WrongTexts() {
        wrong("deal", 4);
        wrong("deal ", 5);
        wrong(" Deal;", 1);
        wrong("deals;", 0);
        wrong("teal;", 0);
        wrong("setgate 5;", 0);
        wrong(";", 0);
        wrong("deal;;", 5);
        wrong("5;", 0);
        wrong("deal 5;", 5);
        wrong("pass;", 4);
        wrong("pass x;", 5);
        wrong("pass 1 2;", 7);
        wrong("pass 00000001;", 5);
        wrong("deal;pass 12345678;", 10);
        wrong("gain -5;", 5);
        wrong("subscribe 0;", 11);
        wrong("subscribe 0 5 5;", 14);
        wrong("redeem 0", 8);
        wrong("merge;crystallize;merge !", 24);
        wrong("deal;" + (char) 200, 5);
    }

    private static void promise17WordsOfOperationsThatThrow() {
        wrong("deal; gain 10000;deal;", 6);
        wrong("gain 9999;gain 9999;gain 9999;gain 9999;gain 9999;gain 9999;gain 9999;", 60);
        wrong("lose 9001;", 0);
        wrong("deal;pass 0;", 5);
        wrong("pass 401;", 0);
        wrong("subscribe 2 1;", 0);
        wrong("subscribe 1 0;", 0);
        wrong("redeem 0 100001;", 0);
        wrong("redeem 1 1;", 0);
        wrong("redeem 0 0;", 0);
        wrong("redeem 0 50000;redeem 0 50001;", 15);
        StringBuilder thirteen = new StringBuilder();
        for (int i = 0; i < 13; i++) {
            thirteen.append("subscribe 0 1;");
        }
        wrong(thirteen.toString(), 12 * 14);
        // the error of the operation comes first, since its semicolon is read first
        wrong("lose 9001;deel;", 0);
        wrong("lose 9001 deel;", 10);
    }

    private static void wrong(String text, int position) {
        SeriesFund x = Tester.fund("fund series 10 20 50;investors 2;subscribe 0 1000000;");
        x.subscribe(1, 5);
        x.withdraw(0);
        String before = Tester.stateOf(x);
        T.due("runScript() of " + text, Tester.script(x, text), -1 - position);
        T.due("state after " + text, Tester.stateOf(x), before);
        T.due("undoDepth() after " + text, x.undoDepth(), 2);
        T.argument("the buffer after " + text, () -> x.truncateText(1));
    }

    private static void promise17IsOneChange() {
        SeriesFund x = Tester.fund("fund series 10 20 50;investors 2;subscribe 0 1000000;");
        String before = Tester.stateOf(x);
        T.due("runScript()", Tester.script(x, "pass 5;gain 100;deal;subscribe 1 5;"), 4);
        T.due("undoDepth()", x.undoDepth(), 1);
        T.due("undo()", x.undo(), 0);
        T.due("state after undo()", Tester.stateOf(x), before);
    }
}
