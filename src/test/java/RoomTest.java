import com.sun.management.ThreadMXBean;
import java.lang.management.ManagementFactory;

/**
 * All calls of a run live in one room of memory: rows are made by the constructor and used again, so a call
 * makes no objects, but for the one reader that a text needs and the ten books that undo keeps.
 */
final class RoomTest {
    private interface Call {
        long run();
    }

    private static final int CALLS = 200;
    private static final int OBJECT = 64;
    /** A new fund has two books of some 3000 bytes, and the buffers of texts and reports. */
    private static final int FUND = 20000;
    private static final int BOOK = 6000;
    private static final Tester T = new Tester("RoomTest");
    private static final ThreadMXBean MEMORY = (ThreadMXBean) ManagementFactory.getThreadMXBean();
    private static long sink = 0;

    public static void main(String[] args) {
        small("new SeriesFund", FUND, () -> new SeriesFund().undoDepth());
        small("first change", FUND + BOOK, () -> new SeriesFund().deal());
        SeriesFund fund = fullFund();
        texts(fund);
        lookAheads(fund);
        questions(fund);
        changes(fund);
        T.end();
    }

    /** Six series, their lots, ten changes to undo, redemptions that the gate holds back. */
    private static SeriesFund fullFund() {
        SeriesFund fund = new SeriesFund();
        Tester.parse(fund, "fund series 200 20 3;investors 6;");
        for (int round = 0; round < 6; round++) {
            for (int investor = 0; investor < 6; investor++) {
                fund.subscribe(investor, 50000 + 1000 * round);
            }
            fund.deal();
            fund.earn(100);
        }
        for (int investor = 0; investor < 6; investor++) {
            fund.redeem(investor, 20000);
            fund.redeem(investor, 5000);
        }
        T.due("series", fund.count(6), 6);
        T.due("lots", fund.count(7), 36);
        T.due("requests", fund.count(8), 12);
        T.due("undoDepth", fund.undoDepth(), 10);
        return fund;
    }

    private static long allocated() {
        return MEMORY.getCurrentThreadAllocatedBytes();
    }

    /** The bytes that a call makes on the average; the first calls may load classes. */
    private static void small(String name, int limit, Call call) {
        for (int i = 0; i < CALLS; i++) {
            sink += call.run();
        }
        long before = allocated();
        for (int i = 0; i < CALLS; i++) {
            sink += call.run();
        }
        long each = (allocated() - before) / CALLS;
        T.due(name + " makes " + each + " bytes, few enough", each <= limit, true);
    }

    /** No object of the class is made; the machine's own compiler may leave a few bytes. */
    private static void none(String name, Call call) {
        small(name, 32, call);
    }

    private static long right(int got, int want) {
        if (got != want) {
            throw new IllegalStateException("the text is not read");
        }
        return got;
    }

    private static void texts(SeriesFund fund) {
        none("appendText", () -> fund.appendText(1, 2, 3, 4, 5) + fund.truncateText(0));
        SeriesFund other = new SeriesFund();
        for (int i = 0; i < 12; i++) {
            other.deal();
        }
        // "fund series 0 0 1;  investors 1;        "
        small("parseFund", OBJECT, () -> {
            other.appendText(0x66756e64, 0x20736572, 0x69657320, 0x30203020, 0x313b2020);
            other.appendText(0x696e7665, 0x73746f72, 0x7320313b, 0x20202020, 0x20202020);
            return right(other.parseFund(), 0);
        });
        // "deal;merge;pass 9;  "
        small("runScript", OBJECT, () -> {
            other.appendText(0x6465616c, 0x3b6d6572, 0x67653b70, 0x61737320, 0x393b2020);
            return right(other.runScript(), 3);
        });
        none("errors", () -> other.errorCode() + other.errorPosition());
    }

    private static void lookAheads(SeriesFund fund) {
        none("requestedValue", fund::requestedValue);
        none("gateLimit", fund::gateLimit);
        none("wouldRedeem", () -> fund.wouldRedeem(11));
        none("dealsUntilDone", () -> fund.dealsUntilDone(11));
        none("feesIf", () -> fund.feesIf(9999));
        none("breakEven", () -> fund.breakEven(0));
        none("rateFor", () -> fund.rateFor(0, fund.valueOf(0) + 1));
        none("daysUntil", () -> fund.daysUntil(0));
        none("wouldCrystallize", fund::wouldCrystallize);
        none("wouldMerge", fund::wouldMerge);
        none("bestGate", () -> fund.bestGate(11));
    }

    private static void questions(SeriesFund fund) {
        none("counts", () -> fund.count(9) + fund.account(5) + fund.netAssets() + fund.undoDepth());
        none("series", () -> fund.openSeries(5) + fund.seriesValue(5, 7));
        none("lot and request", () -> fund.lot(35, 5) + fund.request(11, 3));
        none("units", () -> fund.unitsOf(5) + fund.holding(5, 5) + fund.valueOf(5));
        none("richest", () -> fund.richest(5));
        none("share", () -> (long) (fund.share(5) * 100));
        none("report", () -> fund.writeReport() + fund.reportByte(0));
    }

    private static void changes(SeriesFund fund) {
        none("subscribe and withdraw", () -> fund.withdraw(11) + fund.subscribe(0, 100));
        none("redeem and withdraw", () -> fund.withdraw(11) + fund.redeem(0, 1));
        none("deal", fund::deal);
        none("transfer", () -> fund.transfer(0, 1, 1) + fund.transfer(1, 0, 1) + fund.undo() + fund.undo());
        none("earn", () -> fund.earn(-1) + fund.undo());
        none("passDays", () -> fund.passDays(400) + fund.undo());
        none("setGate", () -> fund.setGate(5) + fund.undo());
        none("crystallize and merge", () -> fund.crystallize() + fund.merge());
    }
}
