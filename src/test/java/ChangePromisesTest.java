/** Promises 7 to 16, and sections 3 to 6 that stand behind them. */
final class ChangePromisesTest {
    private static final Tester T = new Tester("ChangePromisesTest");

    public static void main(String[] args) {
        promise7Subscribe();
        promise8Redeem();
        promise9Withdraw();
        promise10Gate();
        promise10SeriesForSubscriptions();
        promise10WhatCannotBeCarriedOut();
        promise10Equalization();
        promise10RedemptionsBeforeSubscriptions();
        promise10InvestorWithoutUnits();
        promise11Earn();
        promise12PassDays();
        promise13CrystallizeSeries();
        promise13CrystallizeEqualization();
        promise14Merge();
        promise15Transfer();
        promise15FullLots();
        promise16SetGate();
        anExceptionChangesNothing();
        T.end();
    }

    private static void promise7Subscribe() {
        SeriesFund x = Tester.fund("fund series 0 0 100;investors 2;");
        x.passDays(3);
        T.due("subscribe(1, 1)", x.subscribe(1, 1), 0);
        T.due("subscribe(0, 9999999)", x.subscribe(0, 9999999), 1);
        T.due("requests", Tester.stateOf(x).substring(Tester.stateOf(x).indexOf('r')), "r 1 0 1 3\nr 0 0 9999999 3\n");
        T.index("subscribe(2, 0)", () -> x.subscribe(2, 0));
        T.index("subscribe(-1, 5)", () -> x.subscribe(-1, 5));
        T.argument("subscribe(0, 0)", () -> x.subscribe(0, 0));
        T.argument("subscribe(0, -5)", () -> x.subscribe(0, -5));
        T.argument("subscribe(0, 10000000)", () -> x.subscribe(0, 10000000));
        for (int i = 2; i < 12; i++) {
            T.due("subscribe", x.subscribe(0, 10), i);
        }
        T.state("the thirteenth", () -> x.subscribe(0, 10));
        T.index("investor before the list", () -> x.subscribe(2, 10));
        T.argument("amount before the list", () -> x.subscribe(0, 0));
        T.due("12 wait", x.count(8), 12);
    }

    private static void promise8Redeem() {
        SeriesFund x = Tester.fund("fund series 0 0 100;investors 2;subscribe 0 1000;subscribe 1 500;");
        x.passDays(2);
        T.index("redeem(2, 1)", () -> x.redeem(2, 1));
        T.index("redeem(-1, 0)", () -> x.redeem(-1, 0));
        T.argument("redeem(0, 0)", () -> x.redeem(0, 0));
        T.argument("redeem(0, 100000000)", () -> x.redeem(0, 100000000));
        T.state("redeem(0, 99999999)", () -> x.redeem(0, 99999999));
        T.state("redeem(0, 101)", () -> x.redeem(0, 101));
        T.due("redeem(0, 60)", x.redeem(0, 60), 0);
        T.state("redeem(0, 41)", () -> x.redeem(0, 41));
        T.due("redeem(1, 50)", x.redeem(1, 50), 1);
        T.due("redeem(0, 40)", x.redeem(0, 40), 2);
        T.state("redeem(0, 1)", () -> x.redeem(0, 1));
        T.due("request", x.request(1, 0) + " " + x.request(1, 1) + " " + x.request(1, 2) + " " + x.request(1, 3),
                "1 1 50 2");
        x.withdraw(0);
        for (int i = 2; i < 12; i++) {
            T.due("redeem(0, 1)", x.redeem(0, 1), i);
        }
        T.state("the thirteenth", () -> x.redeem(0, 1));
        T.argument("units before the list", () -> x.redeem(0, 0));
    }

    private static void promise9Withdraw() {
        SeriesFund x = Tester.fund("fund series 0 0 100;investors 2;subscribe 0 1000;");
        x.subscribe(1, 11);
        x.redeem(0, 22);
        x.subscribe(0, 33);
        T.index("withdraw(3)", () -> x.withdraw(3));
        T.index("withdraw(-1)", () -> x.withdraw(-1));
        T.due("withdraw(1)", x.withdraw(1), 22);
        T.due("the later ones move up", x.request(1, 2), 33);
        T.due("withdraw(0)", x.withdraw(0), 11);
        T.due("withdraw(0)", x.withdraw(0), 33);
        T.index("withdraw(0) of none", () -> x.withdraw(0));
    }

    private static void promise10Gate() {
        SeriesFund x = Tester.fund("fund series 0 0 10;investors 2;subscribe 0 6000;subscribe 1 4000;");
        x.redeem(0, 300);
        x.subscribe(1, 5);
        x.redeem(1, 100);
        // requested 4000, limit 1000: a quarter of each
        T.due("deal()", x.deal(), 0);
        T.due("of the first", x.request(0, 2), 225);
        T.due("the subscription waits", x.request(1, 2), 5);
        T.due("of the other one", x.request(2, 2), 75);
        T.due("paid out", x.account(3), 1000);
        T.due("assets", x.seriesValue(0, 0), 9000);
        x.setGate(40);
        // requested 3000, limit 3600
        T.due("deal() within the gate", x.deal(), 2);
        T.due("paid out", x.account(3), 4000);
        T.due("units", x.unitsOf(0) + " " + x.unitsOf(1), "300 300");
        T.due("one waits", x.count(8) + " " + x.request(0, 2), "1 5");
        x.withdraw(0);
        x.redeem(0, 240);
        T.due("a requested value that equals the limit", x.deal(), 1);
        T.due("nothing waits", x.deal(), 0);
    }

    private static void promise10SeriesForSubscriptions() {
        SeriesFund x = Tester.fund("fund series 0 10 100;investors 2;subscribe 0 1000;subscribe 1 2009;");
        x.passDays(7);
        x.subscribe(1, 19);
        x.subscribe(0, 9);
        x.subscribe(0, 25);
        T.due("deal()", x.deal(), 2);
        T.due("state", Tester.stateOf(x), "2 0 0 10 100 7 2 4 1 2\n0 0 3053 0 0 0\n"
                + "s 0 3009 300 1000000 0 1003000 1003000 0 2\ns 1 44 3 1000000 1 1466666 1433333 7 2\n"
                + "l 0 0 100 1000000 0 0\nl 1 0 200 1000000 0 0\nl 1 1 1 1000000 0 7\nl 0 1 2 1000000 0 7\n"
                + "r 0 0 9 7\n");
    }

    private static void promise10WhatCannotBeCarriedOut() {
        SeriesFund x = Tester.fund("fund series 0 0 100;investors 1;subscribe 0 1000;");
        for (int i = 1; i < 6; i++) {
            x.subscribe(0, 10);
            T.due("a series more", x.deal() + " " + x.count(6), "1 " + (i + 1));
        }
        x.subscribe(0, 10);
        T.due("no seventh series", x.deal() + " " + x.count(6) + " " + x.count(9), "0 6 6");
        x.redeem(0, 100);
        T.due("a closed series makes room in the same dealing", x.deal() + " " + x.count(6) + " " + x.count(9),
                "2 6 7");
        T.due("its number is not used again", x.openSeries(0) + " " + x.openSeries(5), "1 6");
        SeriesFund y = Tester.fund("fund series 0 0 100;investors 1;");
        for (int i = 0; i < 4; i++) {
            Tester.script(y, "subscribe 0 50;".repeat(10) + "subscribe 0 70;deal;");
        }
        T.due("40 lots", y.count(7) + " " + y.count(8), "40 4");
        T.due("no lot more", y.deal(), 0);
        y.redeem(0, 5);
        T.due("room for one lot", y.deal() + " " + y.count(7) + " " + y.count(8), "2 40 3");
        SeriesFund z = Tester.fund("fund series 0 0 100;investors 1;");
        z.subscribe(0, 9);
        T.due("no units", z.deal() + " " + z.count(6) + " " + z.count(9), "0 0 0");
        T.due("later neither", z.dealsUntilDone(0), -1);
    }

    private static void promise10Equalization() {
        SeriesFund x = Tester.fund("fund equal 0 20 100;investors 3;subscribe 0 1000000;");
        x.earn(5000);
        x.subscribe(1, 150000);
        x.subscribe(1, 14);
        x.subscribe(2, 150);
        T.due("deal()", x.deal(), 2);
        // 1500000 a 1000 units; the credit is 10000 * 500000 * 20 / 100 / 100000
        T.due("lot of 1", lot(x, 1), "1 0 10000 1500000 10000 0");
        T.due("lot of 2", lot(x, 2), "2 0 10 1500000 10 0");
        T.due("14 cents are no unit", x.count(8) + " " + x.request(0, 2), "1 14");
        T.due("series", x.count(6) + " " + x.seriesValue(0, 0) + " " + x.seriesValue(0, 1), "1 1650150 110010");
        x.redeem(1, 4000);
        // accrued 110010; base 1540140 * 4000 / 110010, part 110010 * 4000 / 110010, back the credit 4000
        T.due("deal()", x.deal(), 1);
        T.due("credit is used", lot(x, 1), "1 0 6000 1500000 6000 0");
        T.due("paid out and manager", x.account(3) + " " + x.account(0), "60000 0");
        x.redeem(0, 100000);
        x.deal();
        T.due("without a credit the manager gets the part", x.account(3) + " " + x.account(0), "1460000 100000");
        x.withdraw(0);
        x.earn(-5000);
        T.due("gross price", x.seriesValue(0, 4), 750000);
        x.subscribe(2, 75000);
        x.deal();
        T.due("entry below the mark", lot(x, 2), "2 0 10000 750000 0 0");
        x.earn(9999);
        T.due("assets and gross price", x.seriesValue(0, 0) + " " + x.seriesValue(0, 4), "240137 1499918");
        // 10 units: 139 + 9 of the credit 10; 10000 units: 139995 - due 5000, and the part 9998
        x.redeem(2, 10010);
        x.deal();
        T.due("due goes to the manager", x.account(3) + " " + x.account(0), "1595143 114998");
        cheapUnits();
    }

    private static void cheapUnits() {
        SeriesFund x = Tester.fund("fund equal 0 0 100;investors 1;subscribe 0 100;");
        x.earn(-9000);
        x.earn(-9000);
        T.due("gross price", x.seriesValue(0, 4), 10000);
        x.subscribe(0, 1000000);
        x.subscribe(0, 1000001);
        T.due("10000000 units, but not more", x.deal() + " " + x.count(7) + " " + x.lot(1, 2) + " " + x.request(0, 2),
                "1 2 10000000 1000001");
        SeriesFund y = Tester.fund("fund equal 9999 0 100;investors 1;subscribe 0 100000;");
        // a cent loses nothing more, so the price comes to 1 cent a 10000 units; then 100 units a cent
        Tester.script(y, "lose 9000;lose 9000;lose 9000;lose 9000;lose 9000;lose 9000;");
        T.due("price of the last cents", y.seriesValue(0, 0) + " " + y.seriesValue(0, 4), "1 10");
        y.subscribe(0, 1001);
        T.due("more than 10000000 units", y.deal() + " " + y.count(8), "0 1");
        y.subscribe(0, 1000);
        T.due("10000000 units", y.deal() + " " + y.count(8), "1 1");
        SeriesFund z = Tester.fund("fund equal 0 0 100;investors 1;subscribe 0 1000000;");
        Tester.script(z, "lose 9000;lose 1;");
        T.due("gross price", z.seriesValue(0, 4), 99990);
        z.subscribe(0, 9999001);
        z.subscribe(0, 9999000);
        T.due("10000001 units are too many", z.deal() + " " + z.request(0, 2) + " " + z.lot(1, 2),
                "1 9999001 10000000");
        SeriesFund u = Tester.fund("fund equal 0 0 100;investors 1;subscribe 0 9999999;");
        Tester.script(u, "lose 9000;lose 9000;lose 9000;lose 9000;lose 9000;lose 9000;lose 9000;");
        T.due("a cent for 999999 units", u.seriesValue(0, 0) + " " + u.seriesValue(0, 4), "1 0");
        u.subscribe(0, 1);
        T.due("the gross price is 0", u.deal() + " " + u.count(8), "0 1");
        u.crystallize();
        T.due("an entry price of 0", u.lot(0, 3), 0);
        T.due("and what can be asked then", u.valueOf(0) + " " + u.seriesValue(0, 5) + " " + u.wouldCrystallize()
                + " " + u.rateFor(0, 1) + " " + u.dealsUntilDone(0), "1 0 0 -9000 -1");
    }

    private static void promise10RedemptionsBeforeSubscriptions() {
        SeriesFund x = Tester.fund("fund equal 0 0 100;investors 2;subscribe 0 1000;");
        x.subscribe(1, 300);
        x.redeem(0, 100);
        T.due("deal()", x.deal(), 2);
        T.due("the empty series was closed, a new one opened", x.count(6) + " " + x.openSeries(0) + " " + x.count(9),
                "1 1 2");
        T.due("its first price", lot(x, 0), "1 1 30 1000000 0 0");
        SeriesFund y = Tester.fund("fund series 0 0 100;investors 1;subscribe 0 100;subscribe 0 200;");
        y.redeem(0, 15);
        y.deal();
        T.due("a lot is used completely before the next one", y.count(7) + " " + lot(y, 0), "1 0 0 15 1000000 0 0");
        y.redeem(0, 15);
        y.deal();
        T.due("closed", y.count(6) + " " + y.count(7) + " " + y.account(1) + " " + y.account(3), "0 0 0 300");
    }

    /** Waiting redemptions can be of more units than there are, since crystallizing takes units away. */
    private static void promise10InvestorWithoutUnits() {
        SeriesFund x = Tester.fund("fund equal 0 50 100;investors 2;subscribe 0 100000;");
        x.earn(-9000);
        x.subscribe(1, 1000);
        x.deal();
        x.redeem(1, 600);
        x.redeem(1, 400);
        x.earn(9999);
        x.earn(9999);
        x.crystallize();
        long has = x.unitsOf(1);
        T.due("fewer units than are waiting", has < 1000, true);
        long first = Math.min(600, has);
        T.due("wouldRedeem", x.wouldRedeem(0) + " " + x.wouldRedeem(1), first + " " + (has - first));
        T.due("both are carried out", x.deal() + " " + x.unitsOf(1) + " " + x.count(8), "2 0 0");
        SeriesFund y = Tester.fund("fund equal 0 50 100;investors 2;subscribe 0 100000;");
        y.earn(-9000);
        y.subscribe(1, 1000);
        y.deal();
        y.redeem(1, 1000);
        y.earn(9999);
        y.earn(9999);
        y.crystallize();
        y.setGate(1);
        long left = y.unitsOf(1);
        y.transfer(0, 1, 1);
        T.due("the gate holds it back", y.deal() + " " + y.count(8) + " " + (y.unitsOf(1) > 0 && left > 0), "0 1 true");
    }

    private static void promise11Earn() {
        SeriesFund x = Tester.fund("fund series 0 0 100;investors 1;subscribe 0 1005;");
        x.subscribe(0, 20);
        x.deal();
        T.due("earn(99)", x.earn(99), 9);
        T.due("assets", x.seriesValue(0, 0) + " " + x.seriesValue(1, 0), "1014 20");
        T.due("earn(-99)", x.earn(-99), -10);
        T.due("truncated toward zero", x.seriesValue(0, 0) + " " + x.seriesValue(1, 0), "1004 20");
        T.due("gains", x.account(4), -1);
        T.due("earn(-9000)", x.earn(-9000), -903 - 18);
        T.argument("earn(-9001)", () -> x.earn(-9001));
        T.argument("earn(10000)", () -> x.earn(10000));
        T.due("earn(9999)", x.earn(9999), 100 + 1);
        T.due("earn(0)", x.earn(0), 0);
        T.due("no series", new SeriesFund().earn(9999), 0);
        SeriesFund y = Tester.fund("fund series 0 0 100;investors 1;subscribe 0 10;");
        Tester.script(y, "gain 9999;gain 9999;gain 9999;gain 9999;gain 9999;gain 9999;");
        T.due("assets of one unit", y.seriesValue(0, 0), 577);
        T.state("a price above 100000000", () -> y.earn(7349));
        T.argument("the rate comes first", () -> y.earn(10000));
        T.due("a price of 100000000", y.earn(7348) + " " + y.seriesValue(0, 4), "423 100000000");
        T.due("no gain, no higher price", y.earn(9), 0);
        T.state("a gain of a cent", () -> y.earn(10));
        T.due("a loss is always possible", y.earn(-10), -1);
        SeriesFund z = Tester.fund("fund series 0 0 100;investors 1;subscribe 0 1000000;");
        Tester.script(z, "gain 5368;gain 3519;gain 4106;gain 3939;gain 9846;gain 7691;gain 6318;gain 7287;gain 9138;");
        T.due("assets of 100000 units", z.seriesValue(0, 0), 77429347);
        T.state("a price of 100000001", () -> z.earn(2915));
        assetsLimit();
    }

    private static void assetsLimit() {
        StringBuilder text = new StringBuilder("fund series 0 0 100;investors 1;");
        for (int i = 0; i < 12; i++) {
            text.append("subscribe 0 9999999;");
        }
        SeriesFund x = Tester.fund(text.toString());
        Tester.script(x, "gain 9999;gain 9999;gain 9999;");
        T.due("assets", x.seriesValue(0, 0), 959855910);
        T.state("assets above 1000000000", () -> x.earn(419));
        T.due("assets below it", x.earn(418), 40121977);
        for (int i = 0; i < 3; i++) {
            x.subscribe(0, 9999999);
        }
        x.deal();
        T.state("one series of two is enough", () -> x.earn(1));
        T.due("no limit without a gain", x.earn(0), 0);
        SeriesFund y = Tester.fund("fund series 0 0 100;investors 1;subscribe 0 5000000;subscribe 0 5000000;");
        Tester.script(y, "gain 6000;gain 6000;gain 6000;gain 6000;gain 6000;gain 6000;gain 2500;gain 2500;"
                + "gain 2500;gain 2500;gain 2500;gain 2500;gain 2500;");
        T.state("a cent in 10000 above it", () -> y.earn(2501));
        T.due("assets of 1000000000", y.earn(2500) + " " + y.seriesValue(0, 0), "200000000 1000000000");
        y.subscribe(0, 10);
        T.state("a gain above it", () -> y.earn(1));
        SeriesFund z = Tester.fund(text.toString().replace("series", "equal"));
        Tester.script(z, "gain 9999;gain 9999;gain 9999;subscribe 0 8008820;subscribe 0 8008820;subscribe 0 8008820;"
                + "subscribe 0 8008820;deal;subscribe 0 8008821;deal;");
        T.due("assets", z.seriesValue(0, 0), 999900011);
        T.state("assets of 1000000001", () -> z.earn(1));
        z.undo();
        Tester.script(z, "gain 9999;gain 9999;gain 9999;subscribe 0 8008820;subscribe 0 8008820;subscribe 0 8008820;"
                + "subscribe 0 8008820;deal;subscribe 0 8008820;deal;");
        T.due("assets of 1000000000", z.earn(1) + " " + z.seriesValue(0, 0), "99990 1000000000");
    }

    private static void promise12PassDays() {
        SeriesFund x = Tester.fund("fund series 3650 0 100;investors 1;subscribe 0 1000000;");
        x.subscribe(0, 1500);
        x.deal();
        T.due("passDays(2)", x.passDays(2), 1000 + 1 + 999 + 1);
        T.due("assets", x.seriesValue(0, 0) + " " + x.seriesValue(1, 0), "998001 1498");
        T.due("day, manager, fees and gains",
                x.count(5) + " " + x.account(0) + " " + x.account(5) + " " + x.account(4), "2 2001 2001 0");
        T.argument("passDays(0)", () -> x.passDays(0));
        T.argument("passDays(-1)", () -> x.passDays(-1));
        T.argument("passDays(401)", () -> x.passDays(401));
        x.passDays(400);
        T.due("day", x.count(5), 402);
        SeriesFund y = new SeriesFund();
        T.due("no series, no fee", y.passDays(1) + " " + y.count(5), "0 1");
        SeriesFund z = Tester.fund("fund equal 9999 0 100;investors 1;subscribe 0 9999999;");
        T.due("a high rate", z.passDays(1), 9999999L * 9999 / 3650000);
    }

    private static void promise13CrystallizeSeries() {
        SeriesFund x = Tester.fund("fund series 0 20 100;investors 2;subscribe 0 1000000;");
        T.due("without a gain", x.crystallize() + " " + x.seriesValue(0, 2), "0 1000000");
        x.earn(1000);
        x.subscribe(1, 10000);
        x.deal();
        T.due("crystallize()", x.crystallize(), 20000);
        T.due("state", Tester.stateOf(x), "2 0 0 20 100 0 2 2 0 2\n20000 0 1010000 0 100000 0\n"
                + "s 0 1080000 100000 1080000 0 1080000 1080000 0 1\ns 1 10000 1000 1000000 0 1000000 1000000 0 1\n"
                + "l 0 0 100000 1080000 0 0\nl 1 1 1000 1000000 0 0\n");
        x.earn(-1000);
        T.due("below the marks", x.crystallize() + " " + x.seriesValue(0, 2) + " " + x.lot(0, 3) + " " + x.lot(1, 3),
                "0 1080000 972000 900000");
        T.due("no series", new SeriesFund().crystallize(), 0);
        SeriesFund y = Tester.fund("fund series 0 50 100;investors 1;subscribe 0 10;subscribe 0 11;");
        // assets 21, 2 units, excess 1: the fee is truncated to 0, and the mark stays
        T.due("a fee of 0", y.crystallize() + " " + y.seriesValue(0, 2) + " " + y.lot(1, 3), "0 1000000 1050000");
    }

    private static SeriesFund equalized() {
        SeriesFund x = Tester.fund("fund equal 0 20 100;investors 2;subscribe 0 1000000;");
        x.earn(5000);
        x.subscribe(1, 150000);
        x.deal();
        return x;
    }

    private static void promise13CrystallizeEqualization() {
        SeriesFund x = equalized();
        T.due("the whole credit back", x.crystallize() + " " + x.account(0), "100000 100000");
        T.due("series", x.seriesValue(0, 0) + " " + x.seriesValue(0, 1) + " " + x.seriesValue(0, 2),
                "1550000 110714 1400000");
        T.due("lots", lot(x, 0) + ", " + lot(x, 1), "0 0 100000 1400000 0 0, 1 0 10714 1400000 0 0");
        SeriesFund y = equalized();
        y.earn(-2000);
        T.due("a part of the credit back", y.crystallize(), 40000);
        T.due("series", y.seriesValue(0, 0) + " " + y.seriesValue(0, 1) + " " + y.seriesValue(0, 2),
                "1280000 110344 1160000");
        SeriesFund z = equalized();
        z.earn(-5000);
        T.due("no credit back at or below the mark", z.crystallize() + " " + z.lot(1, 4) + " " + z.lot(1, 3)
                + " " + z.seriesValue(0, 2), "0 0 750000 1000000");
        z.earn(2000);
        T.due("due below the mark", z.crystallize(), 33000);
        T.due("series", z.seriesValue(0, 0) + " " + z.seriesValue(0, 1) + " " + z.seriesValue(0, 2),
                "957000 106334 1000000");
        T.due("lots", lot(z, 0) + ", " + lot(z, 1), "0 0 96667 900000 0 0, 1 0 9667 900000 0 0");
        z.undo();
        z.undo();
        z.earn(9999);
        T.due("due up to the mark, and the fee above it", z.crystallize(), 164983);
        T.due("series", z.seriesValue(0, 0) + " " + z.seriesValue(0, 1) + " " + z.seriesValue(0, 2),
                "1484934 106072 1399940");
    }

    private static void promise14Merge() {
        SeriesFund x = Tester.fund("fund series 0 20 100;investors 2;subscribe 0 1000000;");
        T.due("one series", x.merge(), 0);
        x.earn(1000);
        Tester.script(x, "subscribe 1 108000;subscribe 0 10;deal;subscribe 1 15;deal;subscribe 1 20;deal;");
        T.due("the lead is above its mark", x.merge(), 0);
        T.due("neither mark nor merged", x.count(6), 4);
        x.crystallize();
        T.due("merge()", x.merge(), 3);
        // the unit of series 1 is less than one of the lead; 10800, 1 (at 1400000) and 2 become 10000, 1 and 1
        T.due("state", Tester.stateOf(x), "2 0 0 20 100 0 1 4 0 4\n20001 0 1108045 0 100000 0\n"
                + "s 0 1188044 110002 1080000 4 1080020 1080016 0 4\n"
                + "l 0 0 100000 1080000 0 0\nl 1 0 10000 1080000 0 0\nl 1 0 1 1080000 0 0\nl 1 0 1 1080000 0 0\n");
        SeriesFund y = Tester.fund("fund series 0 0 100;investors 2;subscribe 0 1000;");
        Tester.script(y, "subscribe 1 15;deal;subscribe 1 20;deal;subscribe 0 30;deal;");
        T.due("all at their marks but series 1", y.merge(), 2);
        T.due("open", y.count(6) + " " + y.openSeries(0) + " " + y.openSeries(1) + " " + y.count(9), "2 0 1 4");
        T.due("lots keep their order", lot(y, 1) + ", " + lot(y, 2) + ", " + lot(y, 3),
                "1 1 1 1000000 0 0, 1 0 2 1000000 0 0, 0 0 3 1000000 0 0");
        T.due("nothing is left to merge", y.merge() + " " + y.undoDepth(), "0 3");
        SeriesFund z = Tester.fund("fund equal 0 0 100;investors 2;subscribe 0 1000;");
        T.due("equalization", z.merge() + " " + z.undoDepth(), "0 1");
        T.due("no series", new SeriesFund().merge(), 0);
    }

    private static void promise15Transfer() {
        SeriesFund x = Tester.fund("fund equal 0 20 100;investors 3;subscribe 0 1000;");
        x.earn(5000);
        x.passDays(4);
        x.subscribe(0, 1500);
        x.subscribe(1, 150);
        x.deal();
        T.due("lots", lot(x, 0) + ", " + lot(x, 1), "0 0 100 1000000 0 0, 0 0 100 1500000 100 4");
        x.passDays(1);
        T.index("transfer(3, 3, 0)", () -> x.transfer(3, 3, 0));
        T.index("transfer(0, -1, 1)", () -> x.transfer(0, -1, 1));
        T.argument("transfer(0, 0, 1)", () -> x.transfer(0, 0, 1));
        T.argument("transfer(0, 1, 0)", () -> x.transfer(0, 1, 0));
        T.argument("transfer(0, 1, 100000000)", () -> x.transfer(0, 1, 100000000));
        T.state("transfer(0, 1, 99999999)", () -> x.transfer(0, 1, 99999999));
        T.state("transfer(0, 1, 201)", () -> x.transfer(0, 1, 201));
        T.state("transfer(2, 1, 1)", () -> x.transfer(2, 1, 1));
        x.redeem(0, 50);
        T.state("transfer(0, 1, 151)", () -> x.transfer(0, 1, 151));
        T.due("transfer(0, 1, 133)", x.transfer(0, 1, 133), 67);
        T.due("a whole lot changes its investor", lot(x, 0), "1 0 100 1000000 0 0");
        T.due("of the other one a part stays", lot(x, 1), "0 0 67 1500000 67 4");
        T.due("the part is a new lot at the end", lot(x, 3) + ", " + x.count(7), "1 0 33 1500000 33 4, 4");
        T.due("whole lots make no new one", x.transfer(1, 2, 100) + " " + x.count(7), "43 4");
        T.due("credits are truncated for the new lot", x.transfer(1, 2, 1) + " " + lot(x, 2) + ", " + lot(x, 4),
                "42 1 0 9 1500000 9 4, 2 0 1 1500000 1 4");
    }

    private static void promise15FullLots() {
        SeriesFund x = Tester.fund("fund series 0 0 100;investors 3;subscribe 0 1000;");
        for (int i = 1; i < 40; i++) {
            T.due("a lot more", x.transfer(0, 1, 1) + " " + x.count(7), (100 - i) + " " + (i + 1));
        }
        T.state("a new lot while there are 40", () -> x.transfer(0, 1, 1));
        T.due("no new lot is needed", x.transfer(0, 1, 61) + " " + x.count(7), "0 40");
        T.state("the first lot of 1 has 61 units now", () -> x.transfer(1, 2, 60));
        T.due("three whole lots", x.transfer(1, 2, 63) + " " + x.unitsOf(2), "37 63");
    }

    private static void promise16SetGate() {
        SeriesFund x = new SeriesFund();
        T.due("setGate(1)", x.setGate(1), 100);
        T.due("setGate(100)", x.setGate(100), 1);
        T.due("the same gate is a change, too", x.setGate(100) + " " + x.undoDepth(), "100 3");
        T.argument("setGate(0)", () -> x.setGate(0));
        T.argument("setGate(-1)", () -> x.setGate(-1));
        T.argument("setGate(101)", () -> x.setGate(101));
        T.due("count(4)", x.count(4), 100);
    }

    private static void anExceptionChangesNothing() {
        SeriesFund x = Tester.fund("fund equal 100 20 50;investors 2;subscribe 0 1000000;");
        x.earn(5000);
        x.subscribe(1, 5);
        String before = Tester.stateOf(x);
        Tester.answer(() -> x.subscribe(2, 5));
        Tester.answer(() -> x.subscribe(1, 0));
        Tester.answer(() -> x.redeem(1, 1));
        Tester.answer(() -> x.withdraw(1));
        Tester.answer(() -> x.earn(10000));
        Tester.answer(() -> x.passDays(401));
        Tester.answer(() -> x.transfer(1, 0, 1));
        Tester.answer(() -> x.setGate(0));
        T.due("state", Tester.stateOf(x), before);
        T.due("undoDepth()", x.undoDepth(), 2);
    }

    private static String lot(SeriesFund x, int lot) {
        StringBuilder out = new StringBuilder();
        for (int what = 0; what < 6; what++) {
            out.append(what > 0 ? " " : "").append(x.lot(lot, what));
        }
        return out.toString();
    }
}
