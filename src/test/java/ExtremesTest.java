import java.util.Random;

/** Prices near 10^12, hundreds of millions of units, single cents: the numbers stay exact. */
final class ExtremesTest {
    private static final Tester T = new Tester("ExtremesTest");

    public static void main(String[] args) {
        for (int fee : new int[] {0, 1, 37, 50}) {
            dearUnits(fee);
            cheapUnits(fee);
        }
        manyMergedUnits();
        T.end();
    }

    private static SideBySide begin(String method, int rate, int fee) {
        SideBySide x = new SideBySide(T, new Random(fee));
        x.begin(method + " " + fee);
        x.bruteRates = 20;
        T.due("parse", Tester.parse(x.fund, "fund " + method + " " + rate + " " + fee + " 100;investors 2;"), 0);
        x.plain.equal = method.equals("equal");
        x.plain.rate = rate;
        x.plain.fee = fee;
        x.plain.investors = 2;
        return x;
    }

    private static void buy(SideBySide x, int investor, long amount) {
        x.one("subscribe", investor, (int) Math.max(1, Math.min(9999999, amount)), 0);
        x.one("deal", 0, 0, 0);
        x.same();
    }

    /** Each time nearly the price of two units is paid for one, and a unit goes back. */
    private static void raisePrice(SideBySide x) {
        buy(x, 0, 19);
        for (int i = 0; i < 6; i++) {
            x.one("earn", i < 5 ? 9999 : 7331, 0, 0);
        }
        for (int i = 0; i < 40; i++) {
            buy(x, 1, 2 * x.fund.seriesValue(x.fund.openSeries(0), 4) / 100000 - 1);
            if (x.fund.unitsOf(1) > 0) {
                x.one("redeem", 1, 1, 0);
                x.one("deal", 0, 0, 0);
                x.same();
            }
        }
    }

    private static void dearUnits(int fee) {
        SideBySide x = begin("equal", 9999, fee);
        raisePrice(x);
        T.due("a price above 10^11", x.fund.seriesValue(0, 4) > 100000000000L, true);
        buy(x, 1, 9999999);
        x.lookAhead();
        x.one("crystallize", 0, 0, 0);
        x.same();
        x.lookAhead();
        buy(x, 1, 9999999);
        x.one("earn", -300, 0, 0);
        x.one("pass", 40, 0, 0);
        x.one("crystallize", 0, 0, 0);
        x.same();
        x.lookAhead();
    }

    /** After the price and the mark were high, a fall, and as many cheap units as can be had. */
    private static void cheapUnits(int fee) {
        SideBySide x = begin("equal", 0, fee);
        raisePrice(x);
        x.one("crystallize", 0, 0, 0);
        for (int i = 0; i < 9; i++) {
            x.one("earn", -9000, 0, 0);
        }
        for (int i = 0; i < 36; i++) {
            long price = x.fund.seriesValue(0, 4);
            buy(x, i % 2, price * 10000000 / 100000);
        }
        x.lookAhead();
        for (int i = 0; i < 12; i++) {
            x.one("earn", 9999, 0, 0);
            x.one("redeem", 1, (int) Math.min(99999999, x.fund.unitsOf(1) / 3 + 1), 0);
            x.same();
            x.lookAhead();
        }
        x.one("crystallize", 0, 0, 0);
        x.same();
        x.one("deal", 0, 0, 0);
        x.same();
        x.lookAhead();
    }

    private static void manyMergedUnits() {
        SideBySide x = begin("series", 0, 50);
        buy(x, 0, 9999999);
        for (int i = 0; i < 5; i++) {
            x.one("earn", 9999, 0, 0);
            buy(x, i % 2, 9999999);
        }
        x.one("earn", 9999, 0, 0);
        for (int i = 0; i < 12; i++) {
            x.one("subscribe", i % 2, 9999999, 0);
        }
        x.lookAhead();
        x.one("crystallize", 0, 0, 0);
        x.one("merge", 0, 0, 0);
        x.same();
        x.lookAhead();
        x.one("deal", 0, 0, 0);
        x.same();
        x.one("earn", 9999, 0, 0);
        x.one("earn", 100, 0, 0);
        x.same();
        x.one("crystallize", 0, 0, 0);
        x.one("merge", 0, 0, 0);
        x.same();
        x.lookAhead();
    }
}
