/** Promises 18 to 29: questions about the fund. */
final class QuestionPromisesTest {
    private static final Tester T = new Tester("QuestionPromisesTest");

    public static void main(String[] args) {
        promise18Count();
        promise19NetAssets();
        promise20Account();
        promise21OpenSeries();
        promise22SeriesValue();
        promise22ManyUnitsBelowAHighMark();
        promise23Lot();
        promise24Request();
        promise25UnitsOf();
        promise26Holding();
        promise27ValueOf();
        promise28Richest();
        promise29Share();
        questionsChangeNothing();
        T.end();
    }

    /** Series 0: 1100000 cents, 100000 units, of 0; series 2: 50000 cents, 5000 units, of 1 and 0. */
    private static SeriesFund twoSeries() {
        SeriesFund x = Tester.fund("fund series 365 20 60;investors 3;subscribe 0 1000000;");
        x.earn(1000);
        x.subscribe(2, 300);
        x.deal();
        x.redeem(2, 30);
        x.deal();
        x.setGate(70);
        for (int i = 0; i < 4; i++) {
            x.subscribe(1, 1 + i);
        }
        x.withdraw(0);
        x.subscribe(1, 30000);
        x.subscribe(0, 20000);
        x.deal();
        return x;
    }

    private static void promise18Count() {
        SeriesFund x = twoSeries();
        x.passDays(8);
        long[] due = {3, 0, 365, 20, 70, 8, 2, 3, 3, 3};
        for (int what = 0; what < due.length; what++) {
            T.due("count(" + what + ")", x.count(what), due[what]);
        }
        T.argument("count(10)", () -> x.count(10));
        T.argument("count(-1)", () -> x.count(-1));
        T.argument("count(least)", () -> x.count(Integer.MIN_VALUE));
        T.due("method equalization", Tester.fund("fund equal 1 2 3;investors 4;").count(1), 1);
    }

    private static void promise19NetAssets() {
        SeriesFund x = twoSeries();
        T.due("netAssets()", x.netAssets(), 1080000 + 50000);
        x.earn(100);
        // series 0: 1111000 - 22200; series 2: 50500 - 100
        T.due("netAssets()", x.netAssets(), 1088800 + 50400);
        T.due("netAssets() of none", new SeriesFund().netAssets(), 0);
    }

    private static void promise20Account() {
        SeriesFund x = twoSeries();
        x.redeem(0, 50000);
        x.deal();
        x.passDays(1);
        // 550000 * 365 / 3650000 and 50000 * 365 / 3650000 a day
        long[] due = {10000 + 55 + 5, 0, 1050300, 300 + 540000, 100000, 60};
        for (int what = 0; what < due.length; what++) {
            T.due("account(" + what + ")", x.account(what), due[what]);
        }
        x.earn(-9000);
        T.due("gains may be negative", x.account(4), 100000 - 494950 - 44995);
        T.argument("account(6)", () -> x.account(6));
        T.argument("account(-1)", () -> x.account(-1));
    }

    private static void promise21OpenSeries() {
        SeriesFund x = twoSeries();
        T.due("openSeries(0)", x.openSeries(0), 0);
        T.due("openSeries(1)", x.openSeries(1), 2);
        T.index("openSeries(2)", () -> x.openSeries(2));
        T.index("openSeries(-1)", () -> x.openSeries(-1));
        T.index("openSeries(0) of none", () -> new SeriesFund().openSeries(0));
    }

    private static void promise22SeriesValue() {
        SeriesFund x = twoSeries();
        x.passDays(2);
        x.undo();
        long[] due = {1100000, 100000, 1000000, 20000, 1100000, 1080000, 0, 1};
        for (int what = 0; what < due.length; what++) {
            T.due("seriesValue(0, " + what + ")", x.seriesValue(0, what), due[what]);
        }
        x.passDays(3);
        x.withdraw(0);
        x.subscribe(2, 77);
        x.deal();
        long[] fresh = {77, 7, 1000000, 1, 1100000, 1085714, 3, 1};
        for (int what = 0; what < fresh.length; what++) {
            T.due("seriesValue(3, " + what + ")", x.seriesValue(3, what), fresh[what]);
        }
        T.due("lots of series 2", x.seriesValue(2, 7), 2);
        T.index("a closed series", () -> x.seriesValue(1, 0));
        T.index("the series comes first", () -> x.seriesValue(4, 8));
        T.index("series -1", () -> x.seriesValue(-1, 0));
        T.argument("seriesValue(0, 8)", () -> x.seriesValue(0, 8));
        T.argument("seriesValue(2, -1)", () -> x.seriesValue(2, -1));
    }

    /** After a fall mark * units is above the greatest long; the fee of the cheap units is still 0. */
    private static void promise22ManyUnitsBelowAHighMark() {
        SeriesFund x = Tester.fund("fund equal 0 1 100;investors 1;subscribe 0 19;");
        Tester.script(x, "gain9999;gain9999;gain9999;gain9999;gain9999;gain7331;");
        // each time nearly the price of two units is paid for one, so the price doubles
        int[] amounts = {1990, 2980, 3970, 5950, 7930, 11900, 15860, 23790, 31700, 47500, 63300, 94900, 126500,
            189700, 253000, 379500, 506000, 759000, 1012000, 1518000, 2024000, 3036000};
        for (int i = 0; i < amounts.length; i += 2) {
            Tester.script(x, (i > 0 ? "redeem0 2;" : "") + "subscribe0 " + amounts[i] + ";subscribe0 "
                    + amounts[i + 1] + ";deal;");
        }
        Tester.script(x, "crystallize;lose9000;lose9000;lose9000;lose9000;lose9000;lose9000;lose9000;");
        Tester.script(x, "subscribe0 3333300;subscribe0 3333300;subscribe0 3333300;subscribe0 3333300;"
                + "subscribe0 3333300;deal;");
        long[] due = {16666501, 50000003, 200376100000L, 0, 33333, 33333, 0, 8};
        for (int what = 0; what < due.length; what++) {
            T.due("seriesValue(0, " + what + ")", x.seriesValue(0, what), due[what]);
        }
        T.due("net assets", x.netAssets(), 16666501);
        T.due("nothing to crystallize", x.wouldCrystallize(), 0);
    }

    private static void promise23Lot() {
        SeriesFund x = Tester.fund("fund equal 0 20 100;investors 2;subscribe 0 1000000;");
        x.earn(5000);
        x.passDays(6);
        x.subscribe(1, 150000);
        x.deal();
        long[] due = {1, 0, 10000, 1500000, 10000, 6};
        for (int what = 0; what < due.length; what++) {
            T.due("lot(1, " + what + ")", x.lot(1, what), due[what]);
        }
        T.index("lot(2, 9)", () -> x.lot(2, 9));
        T.index("lot(-1, 0)", () -> x.lot(-1, 0));
        T.argument("lot(1, 6)", () -> x.lot(1, 6));
        T.argument("lot(0, -1)", () -> x.lot(0, -1));
    }

    private static void promise24Request() {
        SeriesFund x = twoSeries();
        x.passDays(5);
        x.redeem(0, 40);
        T.due("requests", x.count(8), 4);
        long[] due = {0, 1, 40, 5};
        long[] first = {1, 0, 2, 0};
        for (int what = 0; what < 4; what++) {
            T.due("request(3, " + what + ")", x.request(3, what), due[what]);
            T.due("request(0, " + what + ")", x.request(0, what), first[what]);
        }
        T.index("request(4, 4)", () -> x.request(4, 4));
        T.index("request(-1, 0)", () -> x.request(-1, 0));
        T.argument("request(0, 4)", () -> x.request(0, 4));
        T.argument("request(0, -1)", () -> x.request(0, -1));
    }

    private static void promise25UnitsOf() {
        SeriesFund x = twoSeries();
        T.due("units", x.unitsOf(0) + " " + x.unitsOf(1) + " " + x.unitsOf(2), "102000 3000 0");
        T.index("unitsOf(3)", () -> x.unitsOf(3));
        T.index("unitsOf(-1)", () -> x.unitsOf(-1));
    }

    private static void promise26Holding() {
        SeriesFund x = twoSeries();
        T.due("holdings of 0", x.holding(0, 0) + " " + x.holding(0, 2), "100000 2000");
        T.due("holdings of 1", x.holding(1, 0) + " " + x.holding(1, 2), "0 3000");
        T.index("a closed series", () -> x.holding(0, 1));
        T.index("no such series", () -> x.holding(0, 3));
        T.index("no such investor", () -> x.holding(3, 0));
        T.index("investor -1", () -> x.holding(-1, 0));
    }

    private static void promise27ValueOf() {
        SeriesFund x = twoSeries();
        T.due("valueOf(0)", x.valueOf(0), 1080000 + 20000);
        T.due("valueOf(1)", x.valueOf(1), 30000);
        T.due("valueOf(2)", x.valueOf(2), 0);
        x.setGate(1);
        T.due("without a gate", x.valueOf(0), 1100000);
        T.index("valueOf(3)", () -> x.valueOf(3));
        T.index("valueOf(-1)", () -> x.valueOf(-1));
        SeriesFund y = Tester.fund("fund equal 0 20 100;investors 2;subscribe 0 1000000;");
        y.earn(5000);
        y.subscribe(1, 150000);
        y.deal();
        T.due("with the credit", y.valueOf(0) + " " + y.valueOf(1), "1400000 150000");
        y.earn(-2000);
        // net 1276000 * 10000 / 110000, and of the credit the part 44000 * 10000 / 110000
        T.due("with a part of the credit", y.valueOf(1), 116000 + 4000);
        SeriesFund z = Tester.fund("fund equal 0 20 100;investors 2;subscribe 0 1000000;");
        z.earn(-5000);
        z.subscribe(1, 50000);
        z.deal();
        z.earn(5000);
        // 7500000 a 1000 units; due is 10000 * 250000 * 20 / 100 / 100000
        T.due("less what is due", z.valueOf(1), 75000 - 5000);
        SeriesFund u = Tester.fund("fund series 0 50 100;investors 1;subscribe 0 17;subscribe 0 26;");
        // 43 cents, 3 units, excess 13, fee 6: base 12, part 2; then 29 cents, 2 units, fee 4: base 25
        T.due("each lot with the values before it", u.valueOf(0), 12 + 25);
    }

    private static void promise28Richest() {
        SeriesFund x = Tester.fund("fund series 0 0 100;investors 5;subscribe 3 500;subscribe 1 900;subscribe 4 500;");
        int[] due = {1, 3, 4, 0, 2};
        for (int place = 0; place < 5; place++) {
            T.due("richest(" + place + ")", x.richest(place), due[place]);
        }
        T.index("richest(5)", () -> x.richest(5));
        T.index("richest(-1)", () -> x.richest(-1));
        T.due("richest(0) of a new object", new SeriesFund().richest(0), 0);
    }

    private static void promise29Share() {
        SeriesFund x = Tester.fund("fund series 0 0 100;investors 3;subscribe 0 1000;subscribe 1 2000;");
        T.due("share(0)", x.share(0), 1000.0 / 3000.0);
        T.due("share(1)", x.share(1), 2000.0 / 3000.0);
        T.due("share(2)", x.share(2), 0.0);
        T.index("share(3)", () -> x.share(3));
        T.index("share(-1)", () -> x.share(-1));
        SeriesFund y = new SeriesFund();
        T.call("share(0) of nothing", () -> y.share(0), "throws.ArithmeticException");
        T.index("the investor comes first", () -> y.share(1));
    }

    private static void questionsChangeNothing() {
        SeriesFund x = twoSeries();
        x.redeem(0, 60000);
        String before = Tester.stateOf(x);
        int depth = x.undoDepth();
        x.valueOf(0);
        x.richest(2);
        x.share(0);
        x.requestedValue();
        x.wouldRedeem(0);
        x.dealsUntilDone(0);
        x.feesIf(5000);
        x.breakEven(0);
        x.rateFor(0, 1);
        x.daysUntil(5);
        x.wouldCrystallize();
        x.wouldMerge();
        x.bestGate(0);
        x.writeReport();
        T.due("state", Tester.stateOf(x), before);
        T.due("undoDepth()", x.undoDepth(), depth);
    }
}
