/** Promises 41 to 44: the report and undo. */
final class ReportAndUndoPromisesTest {
    private static final Tester T = new Tester("ReportAndUndoPromisesTest");

    public static void main(String[] args) {
        promise41WriteReport();
        promise42ReportByte();
        promise42TheLatestReportStays();
        promise43UndoOfEachChange();
        promises43And44Depth();
        T.end();
    }

    private static void promise41WriteReport() {
        SeriesFund x = new SeriesFund();
        T.due("report of a new object", Tester.report(x), "day 0 assets 0\n");
        Tester.parse(x, "fund series 0 20 100;investors 6;subscribe 5 1000000;subscribe 0 10;");
        x.earn(1000);
        x.passDays(12);
        Tester.script(x, "subscribe 5 20;subscribe 5 30;subscribe 3 70;deal;");
        T.due("report", Tester.report(x), "day 12 assets 1080131\n"
                + "series 0 1080000 1000000 0:1 5:100000\nseries 1 1000000 1000000 3:7 5:5\n");
        T.due("its length", x.writeReport(), 22 + 38 + 33);
        Tester.script(x, "redeem 5 100000;redeem 0 1;deal;");
        T.due("in place of the previous one", Tester.report(x),
                "day 12 assets 120\nseries 1 1000000 1000000 3:7 5:5\n");
    }

    private static void promise42ReportByte() {
        SeriesFund x = new SeriesFund();
        T.index("reportByte(0)", () -> x.reportByte(0));
        T.due("length", x.writeReport(), 15);
        T.due("the first", x.reportByte(0), (int) 'd');
        T.due("the last", x.reportByte(14), 10);
        T.index("reportByte(15)", () -> x.reportByte(15));
        T.index("reportByte(-1)", () -> x.reportByte(-1));
        T.index("reportByte(least)", () -> x.reportByte(Integer.MIN_VALUE));
    }

    private static void promise42TheLatestReportStays() {
        SeriesFund x = Tester.fund("fund series 0 0 100;investors 1;subscribe 0 10;");
        x.writeReport();
        x.passDays(5);
        x.undo();
        Tester.parse(x, "fund series 0 0 100;investors 2;");
        String written = "day 0 assets 10\nseries 0 1000000 1000000 0:1\n";
        for (int i = 0; i < written.length(); i++) {
            T.due("reportByte(" + i + ")", x.reportByte(i), (int) written.charAt(i));
        }
        T.index("its end", () -> x.reportByte(written.length()));
        T.due("a shorter one", x.writeReport(), 15);
        T.index("ends sooner", () -> x.reportByte(15));
    }

    private static void promise43UndoOfEachChange() {
        String[] changes = {"subscribe", "redeem", "withdraw", "deal", "earn", "earn 0", "passDays", "crystallize",
            "merge", "transfer", "setGate", "runScript", "empty script"};
        for (String change : changes) {
            SeriesFund x = Tester.fund("fund series 365 20 100;investors 2;subscribe 0 1000000;");
            x.earn(1000);
            x.subscribe(1, 10000);
            x.deal();
            x.redeem(0, 5000);
            String before = Tester.stateOf(x);
            make(x, change);
            T.due("undoDepth() after " + change, x.undoDepth(), 5);
            T.due("undo() of " + change, x.undo(), 4);
            T.due("state after undo() of " + change, Tester.stateOf(x), before);
        }
    }

    private static void make(SeriesFund x, String change) {
        switch (change) {
            case "subscribe":
                x.subscribe(0, 5);
                break;
            case "redeem":
                x.redeem(0, 5);
                break;
            case "withdraw":
                x.withdraw(0);
                break;
            case "deal":
                x.deal();
                break;
            case "earn":
                x.earn(500);
                break;
            case "earn 0":
                x.earn(0);
                break;
            case "passDays":
                x.passDays(30);
                break;
            case "crystallize":
                x.crystallize();
                break;
            case "merge":
                x.merge();
                break;
            case "transfer":
                x.transfer(0, 1, 7);
                break;
            case "setGate":
                x.setGate(5);
                break;
            case "runScript":
                Tester.script(x, "pass 3;crystallize;merge;deal;");
                break;
            default:
                Tester.script(x, "");
                break;
        }
    }

    private static void promises43And44Depth() {
        SeriesFund x = new SeriesFund();
        T.state("undo() of a new object", x::undo);
        for (int i = 1; i <= 13; i++) {
            x.passDays(i);
            T.due("undoDepth()", x.undoDepth(), Math.min(i, 10));
        }
        int day = 13 * 14 / 2;
        for (int i = 13; i > 3; i--) {
            day -= i;
            T.due("undo()", x.undo() + " " + x.count(5), (i - 4) + " " + day);
        }
        T.state("the eleventh undo()", x::undo);
        T.due("undoDepth()", x.undoDepth(), 0);
        x.passDays(50);
        x.passDays(60);
        T.due("undo() after undoing and changing", x.undo() + " " + x.count(5), "1 " + (day + 50));
        x.earn(5);
        T.due("what was undone is gone", x.undo() + " " + x.undo() + " " + x.count(5), "1 0 " + day);
        x.passDays(1);
        Tester.answer(() -> x.passDays(0));
        Tester.script(x, "pass 0;");
        T.due("what throws is no change", x.undoDepth(), 1);
        Tester.parse(x, "fund");
        T.due("nor is a wrong fund text", x.undoDepth(), 1);
        Tester.parse(x, "fund series 0 0 1;investors 1;");
        T.due("a right one ends it all", x.undoDepth(), 0);
        T.state("undo()", x::undo);
    }
}
