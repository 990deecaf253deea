import java.util.Random;

/**
 * A fund in which nothing more has room: 6 investors, 6 open series (or the one of the method equalization),
 * 40 lots and 12 waiting requests. Each answer and each change is held against PlainFund.
 */
final class FullFundTest {
    private static final Tester T = new Tester("FullFundTest");
    private static final String[] CHANGES = {"deal 0 0 0", "earn 777 0 0", "earn -777 0 0", "pass 3 0 0",
        "crystallize 0 0 0", "merge 0 0 0", "gate 3 0 0", "withdraw 0 0 0", "withdraw 11 0 0",
        "withdraw 12 0 0", "subscribe 0 5 0", "redeem 0 1 0", "transfer 0 1 1", "transfer 5 0 3"};

    public static void main(String[] args) {
        everyChange(full("series", 100));
        everyChange(full("series", 7));
        everyChange(full("equal", 100));
        everyChange(full("equal", 1));
        manyInARow(full("series", 30));
        manyInARow(full("equal", 30));
        splittingWhileFull();
        dealingsOfEachKind();
        T.end();
    }

    private static SideBySide full(String method, int gate) {
        SideBySide x = new SideBySide(T, new Random(7));
        x.begin(method + " " + gate);
        String text = "fund " + method + " 365 20 " + gate + ";investors 6;";
        T.due("parse", Tester.parse(x.fund, text), 0);
        x.plain.equal = method.equals("equal");
        x.plain.rate = 365;
        x.plain.fee = 20;
        x.plain.gate = gate;
        x.plain.investors = 6;
        int lots = 0;
        for (int dealing = 0; dealing < 6; dealing++) {
            for (int i = 0; i < 7 && lots < 40; i++) {
                x.one("subscribe", (dealing + i) % 6, 54321 + 1234 * lots, 0);
                lots++;
            }
            x.one("deal", 0, 0, 0);
            x.one("pass", 1, 0, 0);
            x.one("earn", dealing % 2 == 0 ? 900 : -500, 0, 0);
        }
        for (int i = 0; i < 6; i++) {
            x.one("redeem", i, 5000 + i, 0);
            x.one("subscribe", i, 40000 + i, 0);
        }
        x.same();
        T.due("lots and requests", x.fund.count(7) + " " + x.fund.count(8), "40 12");
        T.due("open series", x.fund.count(6), method.equals("equal") ? 1 : 6);
        return x;
    }

    private static void everyChange(SideBySide x) {
        x.lookAhead();
        x.same();
        for (String change : CHANGES) {
            call(x, change);
            x.same();
            x.lookAhead();
            x.same();
            int wanted = x.past.size();
            if (x.fund.undoDepth() == 10) {
                x.undo();
                x.same();
                T.due("undoDepth after undo()", x.fund.undoDepth(), wanted - 1);
                x.one("gate", x.plain.gate, 0, 0);
            }
        }
        T.due("a script", Tester.script(x.fund, "crystallize;merge;deal;pass 2;lose 5;"), 5);
        x.fund.undo();
        x.same();
        T.due("a wrong script", Tester.script(x.fund, "crystallize;merge;deal;pass 2;lose 5;x"), -38);
        x.same();
    }

    private static void call(SideBySide x, String change) {
        String[] words = change.split(" ");
        x.one(words[0], Integer.parseInt(words[1]), Integer.parseInt(words[2]), Integer.parseInt(words[3]));
    }

    private static void manyInARow(SideBySide x) {
        for (int round = 0; round < 12; round++) {
            x.one("crystallize", 0, 0, 0);
            x.one(round % 3 == 0 ? "merge" : "deal", 0, 0, 0);
            x.one("earn", 250, 0, 0);
            x.one("subscribe", round % 6, 30000, 0);
            x.one("redeem", (round + 1) % 6, 700, 0);
            x.same();
        }
        for (int i = 0; i < 10; i++) {
            x.undo();
            x.same();
        }
        x.undo();
    }

    /** 40 lots: a part of a lot cannot be moved, whole lots can, whosever lots stand before them. */
    private static void splittingWhileFull() {
        SideBySide x = full("series", 100);
        for (int from = 0; from < 6; from++) {
            long first = 0;
            long two = 0;
            int found = 0;
            for (int i = 0; i < 40; i++) {
                if (x.fund.lot(i, 0) == from && found < 2) {
                    first = found == 0 ? x.fund.lot(i, 2) : first;
                    two += x.fund.lot(i, 2);
                    found++;
                }
            }
            for (long units : new long[] {first - 1, first + 1, two - 1, two + 1, two, first}) {
                x.one("transfer", from, (from + 1) % 6, (int) units);
                x.same();
            }
        }
    }

    /** Each request of a full list, until it is done. */
    private static void dealingsOfEachKind() {
        for (String method : new String[] {"series", "equal"}) {
            SideBySide x = full(method, 2);
            for (int i = 0; i < 12; i++) {
                T.due("dealsUntilDone " + i, x.fund.dealsUntilDone(i), x.plain.dealsUntilDone(i));
            }
            for (int i = 0; i < 4; i++) {
                x.one("deal", 0, 0, 0);
                x.same();
            }
        }
    }
}
