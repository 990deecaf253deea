/** The least and greatest arguments of each call, those beyond, and the order of the exceptions (section 9). */
final class BoundaryCallsTest {
    private static final Tester T = new Tester("BoundaryCallsTest");
    private static final int LEAST = Integer.MIN_VALUE;
    private static final int MOST = Integer.MAX_VALUE;

    public static void main(String[] args) {
        textBuffer();
        subscribe();
        redeem();
        withdraw();
        earn();
        earnAboveItsLimits();
        passDays();
        transfer();
        transferWithoutRoom();
        setGate();
        questions();
        investorsOfAFund();
        richestAndShare();
        wouldRedeemAndDealsUntilDone();
        feesIfAndBreakEven();
        rateFor();
        rateForOfManyUnits();
        daysUntil();
        bestGate();
        report();
        undoBringsDaysBack();
        undoOfTenChanges();
        refusedCallsKeepWhatCanBeUndone();
        undoLeavesTextReportAndError();
        aNewFund();
        T.end();
    }

    private static SeriesFund fund(String rest) {
        return Tester.fund("fund series 0 0 100;investors 2;" + rest);
    }

    private static void textBuffer() {
        SeriesFund x = new SeriesFund();
        T.argument("truncateText(-1) of nothing", () -> x.truncateText(-1));
        T.due("truncateText(0) of nothing", x.truncateText(0), 0);
        T.argument("truncateText(1) of nothing", () -> x.truncateText(1));
        for (int i = 1; i <= 20; i++) {
            T.due("appendText", x.appendText(LEAST, MOST, -1, 0, 1), 20 * i);
        }
        T.state("the twenty-first", () -> x.appendText(0, 0, 0, 0, 0));
        T.argument("truncateText(401)", () -> x.truncateText(401));
        T.argument("truncateText(most)", () -> x.truncateText(MOST));
        T.argument("truncateText(least)", () -> x.truncateText(LEAST));
        T.due("truncateText(399)", x.truncateText(399), 399);
        T.argument("truncateText(400) then", () -> x.truncateText(400));
        T.state("20 more than 399", () -> x.appendText(0, 0, 0, 0, 0));
        T.due("truncateText(380)", x.truncateText(380), 380);
        T.due("20 more than 380", x.appendText(0, 0, 0, 0, 0), 400);
        T.due("a wrong fund text", x.parseFund(), -1);
        T.due("20 of nothing", x.appendText(0, 0, 0, 0, 0), 20);
    }

    private static void subscribe() {
        SeriesFund x = fund("");
        T.index("investor -1", () -> x.subscribe(-1, 0));
        T.index("investor 2", () -> x.subscribe(2, 0));
        T.index("investor most", () -> x.subscribe(MOST, 1));
        T.index("investor least", () -> x.subscribe(LEAST, 1));
        for (int amount : new int[] {0, -1, LEAST, 10000000, MOST}) {
            T.argument("amount " + amount, () -> x.subscribe(1, amount));
        }
        for (int i = 0; i < 12; i++) {
            T.due("subscribe", x.subscribe(i % 2, i % 3 == 0 ? 1 : 9999999), i);
        }
        T.index("no investor, no amount, no room", () -> x.subscribe(2, 0));
        T.argument("no amount, no room", () -> x.subscribe(0, 10000000));
        T.state("no room", () -> x.subscribe(0, 1));
        x.withdraw(5);
        T.due("room again", x.subscribe(0, 1), 11);
    }

    private static void redeem() {
        SeriesFund x = fund("subscribe 0 120;subscribe 1 10;");
        T.index("investor -1", () -> x.redeem(-1, 0));
        T.index("investor 2", () -> x.redeem(2, 0));
        T.index("investor most", () -> x.redeem(MOST, 1));
        T.index("investor least", () -> x.redeem(LEAST, 1));
        for (int units : new int[] {0, -1, LEAST, 100000000, MOST}) {
            T.argument("units " + units, () -> x.redeem(0, units));
        }
        T.state("units 99999999", () -> x.redeem(0, 99999999));
        T.state("units 13", () -> x.redeem(0, 13));
        x.subscribe(1, 5);
        T.due("a subscription does not count", x.redeem(1, 1), 1);
        T.state("what waits counts", () -> x.redeem(1, 1));
        T.due("all units of the other one", x.redeem(0, 12), 2);
        x.withdraw(2);
        for (int i = 2; i < 12; i++) {
            T.due("redeem", x.redeem(0, 1), i);
        }
        T.index("no investor, no units, no room", () -> x.redeem(2, 0));
        T.argument("no units, no room", () -> x.redeem(0, 100000000));
        T.state("no room, but units", () -> x.redeem(0, 1));
        x.withdraw(0);
        T.due("room again", x.redeem(0, 2), 11);
        x.withdraw(0);
        T.state("room, but no units", () -> x.redeem(0, 1));
    }

    private static void withdraw() {
        SeriesFund x = fund("subscribe 0 1000;");
        for (int request : new int[] {0, -1, 12, LEAST, MOST}) {
            T.index("withdraw(" + request + ") of nothing", () -> x.withdraw(request));
        }
        for (int i = 0; i < 12; i++) {
            x.subscribe(1, 100 + i);
        }
        T.index("withdraw(12)", () -> x.withdraw(12));
        T.due("the last of twelve", x.withdraw(11), 111);
        T.due("the first", x.withdraw(0), 100);
        T.due("one between", x.withdraw(4), 105);
        int[] left = {101, 102, 103, 104, 106, 107, 108, 109, 110};
        for (int i = 0; i < left.length; i++) {
            T.due("request(" + i + ", 2)", x.request(i, 2), left[i]);
        }
        T.index("request(9, 2)", () -> x.request(9, 2));
        x.setGate(10);
        x.redeem(0, 50);
        Tester.script(x, "deal;");
        T.due("what is left of a redemption", x.withdraw(0), 40);
    }

    private static void earn() {
        SeriesFund x = fund("");
        T.due("earn(-9000) of nothing", x.earn(-9000), 0);
        T.due("earn(9999) of nothing", x.earn(9999), 0);
        for (int rate : new int[] {-9001, 10000, LEAST, MOST}) {
            T.argument("earn(" + rate + ")", () -> x.earn(rate));
        }
        SeriesFund y = fund("subscribe 0 9999;");
        T.due("a gain is truncated", y.earn(1) + " " + y.earn(2) + " " + y.seriesValue(0, 0), "0 1 10000");
        T.due("a loss is, too", y.earn(-1) + " " + y.earn(-1) + " " + y.earn(-2) + " " + y.seriesValue(0, 0),
                "-1 0 -1 9998");
        T.due("the gains", y.account(4), -1);
    }

    /** Assets above 1000000000 and prices above 100000000 come from subscriptions, too. */
    private static void earnAboveItsLimits() {
        SeriesFund x = Tester.fund("fund equal 0 0 100;investors 1;subscribe 0 10;");
        for (int rate : new int[] {9999, 9999, 9999, 9999, 9999, 9999, 7348}) {
            x.earn(rate);
        }
        T.due("1000 cents for a unit", x.seriesValue(0, 0) + " " + x.seriesValue(0, 4), "1000 100000000");
        T.due("a rate without a gain", x.earn(9), 0);
        T.state("a gain", () -> x.earn(10));
        x.subscribe(0, 1999);
        x.deal();
        T.due("2999 cents for two", x.seriesValue(0, 0) + " " + x.seriesValue(0, 4), "2999 149950000");
        T.due("earn(0)", x.earn(0), 0);
        T.state("earn(1), which would gain nothing", () -> x.earn(1));
        T.argument("earn(10000)", () -> x.earn(10000));
        T.due("earn(-1)", x.earn(-1), 0);
        T.due("earn(-4)", x.earn(-4), -1);
        T.due("looking ahead has no limits", x.feesIf(9999) + " " + x.breakEven(0) + " " + x.rateFor(0, 5000),
                "0 -9000 6678");
        StringBuilder text = new StringBuilder("fund equal 0 0 100;investors 1;");
        for (int i = 0; i < 12; i++) {
            text.append("subscribe 0 9999999;");
        }
        SeriesFund y = Tester.fund(text.toString());
        Tester.script(y, "gain 9999;gain 9999;gain 9999;");
        for (int i = 0; i < 5; i++) {
            y.subscribe(0, 9999999);
        }
        y.deal();
        T.due("assets above the limit", y.seriesValue(0, 0) > 1000000000, true);
        T.due("earn(0)", y.earn(0), 0);
        T.state("earn(1)", () -> y.earn(1));
        T.due("earn(-9000)", y.earn(-9000) < -900000000, true);
        T.due("earn(1) then", y.earn(1) > 0, true);
    }

    private static void passDays() {
        SeriesFund x = fund("");
        for (int days : new int[] {0, -1, 401, LEAST, MOST}) {
            T.argument("passDays(" + days + ")", () -> x.passDays(days));
        }
        T.due("passDays(1)", x.passDays(1) + " " + x.count(5), "0 1");
        T.due("passDays(400)", x.passDays(400) + " " + x.count(5), "0 401");
    }

    private static void transfer() {
        SeriesFund x = Tester.fund("fund series 0 0 100;investors 3;subscribe 0 100;subscribe 1 50;");
        for (int wrong : new int[] {-1, 3, LEAST, MOST}) {
            T.index("from " + wrong, () -> x.transfer(wrong, 0, 0));
            T.index("to " + wrong, () -> x.transfer(0, wrong, 0));
            T.index("both " + wrong, () -> x.transfer(wrong, wrong, 0));
        }
        for (int units : new int[] {0, -1, 100000000, LEAST, MOST}) {
            T.argument("units " + units, () -> x.transfer(0, 1, units));
        }
        T.argument("the same investor", () -> x.transfer(0, 0, 1));
        T.argument("the same investor, who has none", () -> x.transfer(2, 2, 1));
        T.state("11 of 10", () -> x.transfer(0, 1, 11));
        T.state("1 of none", () -> x.transfer(2, 1, 1));
        T.state("99999999 of 10", () -> x.transfer(0, 1, 99999999));
        x.redeem(0, 4);
        x.redeem(0, 3);
        x.redeem(1, 5);
        T.state("4 of 10 of which 7 are asked for", () -> x.transfer(0, 1, 4));
        T.due("3 of them", x.transfer(0, 1, 3) + " " + x.unitsOf(1) + " " + x.count(7), "7 8 3");
        T.state("one more", () -> x.transfer(0, 1, 1));
        T.due("3 of 8 of which 5 are asked for", x.transfer(1, 2, 3) + " " + x.unitsOf(2), "5 3");
        T.due("all of them", x.transfer(2, 0, 3) + " " + x.unitsOf(0) + " " + x.unitsOf(2), "0 10 0");
        SeriesFund y = Tester.fund("fund series 0 0 100;investors 2;subscribe 0 100;subscribe 0 50;");
        y.passDays(3);
        T.due("one whole lot", y.transfer(0, 1, 10) + " " + y.count(7) + " " + y.lot(0, 0) + " " + y.lot(1, 0),
                "5 2 1 0");
        y.undo();
        T.due("and one more unit", y.transfer(0, 1, 11) + " " + y.count(7) + " " + y.lot(0, 0) + " " + y.lot(1, 2)
                + " " + y.lot(2, 0) + " " + y.lot(2, 2) + " " + y.lot(2, 5), "4 3 1 4 1 1 0");
    }

    private static void transferWithoutRoom() {
        SeriesFund x = Tester.fund("fund series 0 0 100;investors 3;subscribe 0 1000;subscribe 1 500;subscribe 1 400;");
        for (int i = 0; i < 37; i++) {
            x.transfer(i % 2, 2, 1);
        }
        T.due("40 lots", x.count(7) + " " + x.lot(1, 2) + " " + x.lot(2, 2), "40 32 40");
        T.state("a part of the first lot of 1", () -> x.transfer(1, 0, 31));
        T.state("a part of the second one", () -> x.transfer(1, 0, 33));
        T.index("no such investor", () -> x.transfer(1, 3, 31));
        T.argument("no units", () -> x.transfer(1, 0, 0));
        T.state("more than there are", () -> x.transfer(1, 0, 73));
        T.due("the whole first lot", x.transfer(1, 0, 32) + " " + x.count(7), "40 40");
        x.undo();
        T.due("both lots", x.transfer(1, 0, 72) + " " + x.count(7), "0 40");
        x.undo();
        x.redeem(2, 1);
        x.deal();
        T.due("39 lots", x.count(7), 39);
        T.due("a part of a lot", x.transfer(1, 0, 31) + " " + x.count(7), "41 40");
        T.state("a further part", () -> x.transfer(1, 0, 2));
    }

    private static void setGate() {
        SeriesFund x = new SeriesFund();
        for (int gate : new int[] {0, -1, 101, LEAST, MOST}) {
            T.argument("setGate(" + gate + ")", () -> x.setGate(gate));
        }
        T.due("setGate(1)", x.setGate(1), 100);
        T.due("setGate(100)", x.setGate(100), 1);
        T.due("undo() of it", x.undo() + " " + x.count(4), "1 1");
    }

    private static void questions() {
        SeriesFund x = fund("subscribe 0 100;");
        for (int what : new int[] {-1, 10, LEAST, MOST}) {
            T.argument("count(" + what + ")", () -> x.count(what));
        }
        for (int what : new int[] {-1, 6, LEAST, MOST}) {
            T.argument("account(" + what + ")", () -> x.account(what));
            T.argument("lot(0, " + what + ")", () -> x.lot(0, what));
        }
        for (int what : new int[] {-1, 8, LEAST, MOST}) {
            T.argument("seriesValue(0, " + what + ")", () -> x.seriesValue(0, what));
        }
        for (int wrong : new int[] {-1, 1, LEAST, MOST}) {
            T.index("openSeries(" + wrong + ")", () -> x.openSeries(wrong));
            T.index("seriesValue(" + wrong + ", 8)", () -> x.seriesValue(wrong, 8));
            T.index("lot(" + wrong + ", 6)", () -> x.lot(wrong, 6));
            T.index("holding(0, " + wrong + ")", () -> x.holding(0, wrong));
            T.index("breakEven(" + wrong + ")", () -> x.breakEven(wrong));
        }
        for (int wrong : new int[] {-1, 0, LEAST, MOST}) {
            T.index("request(" + wrong + ", 4)", () -> x.request(wrong, 4));
        }
        x.redeem(0, 1);
        for (int wrong : new int[] {-1, 4, LEAST, MOST}) {
            T.argument("request(0, " + wrong + ")", () -> x.request(0, wrong));
            T.index("request(1, " + wrong + ")", () -> x.request(1, wrong));
        }
        T.due("the lasts", x.count(9) + " " + x.account(5) + " " + x.lot(0, 5) + " " + x.seriesValue(0, 7) + " "
                + x.request(0, 3), "1 0 0 1 0");
    }

    private static void investorsOfAFund() {
        for (int many = 1; many <= 6; many++) {
            SeriesFund x = Tester.fund("fund series 0 0 100;investors " + many + ";subscribe 0 50;");
            for (int wrong : new int[] {-1, many, LEAST, MOST}) {
                T.index("unitsOf(" + wrong + ")", () -> x.unitsOf(wrong));
                T.index("valueOf(" + wrong + ")", () -> x.valueOf(wrong));
                T.index("holding(" + wrong + ", 0)", () -> x.holding(wrong, 0));
                T.index("richest(" + wrong + ")", () -> x.richest(wrong));
                T.index("share(" + wrong + ")", () -> x.share(wrong));
                T.index("rateFor(" + wrong + ", most)", () -> x.rateFor(wrong, Long.MAX_VALUE));
                T.index("subscribe(" + wrong + ", 0)", () -> x.subscribe(wrong, 0));
            }
            int last = many - 1;
            T.due("the last one", x.unitsOf(last) + " " + x.valueOf(last) + " " + x.holding(last, 0) + " "
                    + x.richest(last) + " " + x.share(last), many == 1 ? "5 50 5 0 1.0" : "0 0 0 " + last + " 0.0");
        }
    }

    private static void richestAndShare() {
        SeriesFund x = Tester.fund("fund series 0 20 100;investors 4;subscribe 2 1000000;");
        Tester.script(x, "gain 1000;subscribe 1 1080000;subscribe 0 1079990;deal;");
        // 1100000 less a fifth of 100000 are as much as 1080000
        T.due("equal ones and a unit less", x.richest(0) + " " + x.richest(1) + " " + x.richest(2) + " " + x.richest(3),
                "1 2 0 3");
        T.due("shares", x.share(2) + " " + x.share(0) + " " + x.share(3),
                1080000.0 / 3239990.0 + " " + 1079990.0 / 3239990.0 + " 0.0");
        SeriesFund y = Tester.fund("fund series 0 20 100;investors 3;");
        T.due("nobody has anything", y.richest(0) + " " + y.richest(1) + " " + y.richest(2), "0 1 2");
        T.call("share of nothing", () -> y.share(2), "throws.ArithmeticException");
        T.index("share of nobody", () -> y.share(3));
        SeriesFund z = Tester.fund("fund equal 0 0 100;investors 2;subscribe 0 9;");
        T.call("share while all waits", () -> z.share(0), "throws.ArithmeticException");
        z.subscribe(1, 10);
        z.deal();
        T.due("all of it", z.share(1) + " " + z.share(0), "1.0 0.0");
    }

    private static void wouldRedeemAndDealsUntilDone() {
        SeriesFund x = Tester.fund("fund series 0 0 10;investors 2;subscribe 0 6000;subscribe 1 4000;");
        for (int wrong : new int[] {-1, 0, LEAST, MOST}) {
            T.index("wouldRedeem(" + wrong + ")", () -> x.wouldRedeem(wrong));
            T.index("dealsUntilDone(" + wrong + ")", () -> x.dealsUntilDone(wrong));
            T.index("bestGate(" + wrong + ")", () -> x.bestGate(wrong));
        }
        x.subscribe(1, 10);
        x.subscribe(1, 5);
        x.redeem(0, 300);
        x.subscribe(0, 10);
        x.redeem(1, 100);
        x.redeem(1, 1);
        String answers = "";
        for (int i = 0; i < 6; i++) {
            answers += x.wouldRedeem(i) + " " + x.dealsUntilDone(i) + " " + x.bestGate(i) + ", ";
        }
        // the list gets shorter at its beginning, and the requests that are asked about move up
        T.due("answers", answers, "0 1 -1, 0 -1 -1, 74 5 41, 0 1 -1, 24 5 41, 0 5 41, ");
        String left = "";
        for (int i = 0; i < 5; i++) {
            left += x.deal() + " " + x.count(8) + ", ";
        }
        T.due("dealings", left, "2 4, 0 4, 0 4, 0 4, 3 1, ");
        SeriesFund y = Tester.fund("fund series 0 0 1;investors 1;subscribe 0 9999999;");
        y.redeem(0, 999999);
        T.due("100 dealings are not enough", y.dealsUntilDone(0), -1);
    }

    private static void feesIfAndBreakEven() {
        SeriesFund x = Tester.fund("fund series 0 50 100;investors 1;subscribe 0 10000;");
        for (int rate : new int[] {-9001, 10000, LEAST, MOST}) {
            T.argument("feesIf(" + rate + ")", () -> x.feesIf(rate));
        }
        T.due("fees", x.feesIf(-9000) + " " + x.feesIf(0) + " " + x.feesIf(1) + " " + x.feesIf(2) + " " + x.feesIf(9999),
                "0 0 0 1 4999");
        T.due("at the mark", x.breakEven(0), 0);
        x.earn(-1);
        T.due("9999 cents", x.breakEven(0), 2);
        x.undo();
        x.earn(1);
        // 10001 * 2 / 10000 is 2, but of 1 it is 1
        T.due("10001 cents", x.breakEven(0), -1);
        x.undo();
        SeriesFund y = Tester.fund("fund series 0 50 100;investors 1;subscribe 0 100000;");
        y.earn(-5000);
        // 50000 * 9999 / 10000 is 49995
        T.missing("half is not enough", () -> y.breakEven(0));
        y.earn(1);
        // 50005 * 9999 / 10000 is 49999
        T.due("50005 cents", y.breakEven(0), 9999);
        SeriesFund z = Tester.fund("fund series 0 0 100;investors 1;subscribe 0 1000;");
        for (int rate : new int[] {9999, 9999, 9999, 2494}) {
            z.earn(rate);
        }
        // 9986 - 8987 is 999, 9986 - 8986 is 1000
        T.due("nearly ten times the mark", z.seriesValue(0, 0) + " " + z.breakEven(0), "9986 -8999");
        z.earn(10);
        T.due("9995 - 8995", z.seriesValue(0, 0) + " " + z.breakEven(0), "9995 -9000");
    }

    private static void rateFor() {
        SeriesFund x = fund("subscribe 0 10000;");
        T.due("least value", x.rateFor(0, Long.MIN_VALUE), -9000);
        T.due("values at the least rate", x.rateFor(0, 999) + " " + x.rateFor(0, 1000) + " " + x.rateFor(0, 1001),
                "-9000 -9000 -8999");
        T.due("values at the greatest rate", x.rateFor(0, 19998) + " " + x.rateFor(0, 19999), "9998 9999");
        T.missing("a cent more", () -> x.rateFor(0, 20000));
        T.missing("the greatest value", () -> x.rateFor(0, Long.MAX_VALUE));
        T.due("of nothing, 0", x.rateFor(1, 0), -9000);
        T.missing("of nothing, 1", () -> x.rateFor(1, 1));
        SeriesFund y = new SeriesFund();
        T.due("without a series", y.rateFor(0, 0), -9000);
        T.missing("without a series, 1", () -> y.rateFor(0, 1));
    }

    /** Where a lot has 10000000 cheap units, a unit of the price is 50 cents of what is due. */
    private static void rateForOfManyUnits() {
        SeriesFund x = Tester.fund("fund equal 0 50 100;investors 2;subscribe 0 1000000;");
        Tester.script(x, "lose 9000;lose 9000;lose 9000;lose 9000;subscribe 1 9999;deal;subscribe 1 9999;deal;");
        long[] values = new long[19000];
        int falls = 0;
        long deepest = 0;
        for (int rate = -9000; rate <= 9999; rate++) {
            x.earn(rate);
            values[rate + 9000] = x.valueOf(1);
            x.undo();
            long fall = rate > -9000 ? values[rate + 8999] - values[rate + 9000] : 0;
            falls += fall > 0 ? 1 : 0;
            deepest = Math.max(deepest, fall);
        }
        T.due("falls of many cents", falls > 0 && deepest > 20, true);
        int least = 0;
        long highest = Long.MIN_VALUE;
        for (; least < 19000; least++) {
            if (values[least] > highest) {
                T.due("rateFor(1, " + values[least] + ")", x.rateFor(1, values[least]), least - 9000);
                T.due("rateFor(1, one above " + highest + ")",
                        highest < 0 ? least - 9000 : x.rateFor(1, highest + 1), least - 9000);
                highest = values[least];
            }
        }
        long most = highest;
        T.missing("above the greatest", () -> x.rateFor(1, most + 1));
    }

    private static void daysUntil() {
        SeriesFund x = Tester.fund("fund series 3650 0 100;investors 1;subscribe 0 1000;");
        T.argument("daysUntil(-1)", () -> x.daysUntil(-1));
        T.argument("daysUntil(least)", () -> x.daysUntil(Long.MIN_VALUE));
        T.due("at most so much now", x.daysUntil(Long.MAX_VALUE) + " " + x.daysUntil(1001) + " " + x.daysUntil(1000),
                "0 0 0");
        T.due("after a day, and never", x.daysUntil(999) + " " + x.daysUntil(998) + " " + x.daysUntil(0), "1 -1 -1");
        T.due("of nothing", new SeriesFund().daysUntil(0), 0);
    }

    private static void bestGate() {
        SeriesFund x = fund("subscribe 0 1000;subscribe 1 9;");
        T.due("a subscription that waits", x.bestGate(0), -1);
        x.redeem(0, 1);
        T.due("one of 100 units", x.bestGate(1), 1);
        x.redeem(0, 1);
        T.due("two of them", x.bestGate(1) + " " + x.bestGate(2), "2 2");
        x.redeem(0, 98);
        T.due("all of them", x.bestGate(3) + " " + x.bestGate(1), "100 100");
        x.setGate(1);
        T.due("the gate of now does not matter", x.bestGate(3) + " " + x.count(4), "100 1");
    }

    private static void report() {
        SeriesFund x = fund("");
        T.index("reportByte(0) of nothing", () -> x.reportByte(0));
        int length = x.writeReport();
        for (int wrong : new int[] {-1, length, LEAST, MOST}) {
            T.index("reportByte(" + wrong + ")", () -> x.reportByte(wrong));
        }
        T.due("the last byte", x.reportByte(length - 1), 10);
        Tester.parse(x, "fund equal 0 0 100;investors 6;subscribe 5 10;subscribe 0 9999999;");
        x.transfer(0, 3, 7);
        Tester.script(x, "pass 400;pass 400;pass 200;gain 1;");
        T.due("report", Tester.report(x), "day 1000 assets 10001009\nseries 0 1000100 1000000 0:999992 3:7 5:1\n");
    }

    private static void undoBringsDaysBack() {
        SeriesFund x = Tester.fund("fund equal 0 20 40;investors 2;");
        Tester.script(x, "pass 5;subscribe 0 1000;deal;pass 6;gain 5000;subscribe 1 1500;deal;pass 7;redeem 1 5;");
        String before = Tester.stateOf(x);
        T.due("days", x.seriesValue(0, 6) + " " + x.lot(1, 5) + " " + x.request(0, 3), "5 11 18");
        x.passDays(8);
        x.undo();
        T.due("state", Tester.stateOf(x), before);
        Tester.script(x, "pass 9;deal;");
        x.undo();
        T.due("state after a script", Tester.stateOf(x), before);
        Tester.script(x, "pass 9;deal;deel");
        T.due("state after a wrong script", Tester.stateOf(x), before);
        T.due("a right script", Tester.script(x, "lose 0;"), 1);
        T.due("days in it", x.seriesValue(0, 6) + " " + x.lot(1, 5) + " " + x.request(0, 3) + " " + x.lot(1, 4),
                "5 11 18 100");
    }

    private static void undoOfTenChanges() {
        SeriesFund x = fund("subscribe 0 1000;");
        T.state("undo() after a fund text", x::undo);
        String[] states = new String[13];
        for (int i = 0; i < 12; i++) {
            states[i] = Tester.stateOf(x);
            x.subscribe(i % 2, i + 1);
            T.due("undoDepth()", x.undoDepth(), Math.min(10, i + 1));
        }
        for (int i = 11; i >= 2; i--) {
            T.due("undo()", x.undo(), i - 2);
            T.due("state", Tester.stateOf(x), states[i]);
        }
        T.state("the eleventh", x::undo);
        T.due("state then", Tester.stateOf(x), states[2]);
        for (int i = 0; i < 25; i++) {
            x.setGate(i + 1);
        }
        for (int i = 0; i < 10; i++) {
            T.due("undo()", x.undo() + " " + x.count(4), (9 - i) + " " + (24 - i));
        }
        T.state("no more", x::undo);
        T.due("undoDepth()", x.undoDepth(), 0);
    }

    private static void refusedCallsKeepWhatCanBeUndone() {
        SeriesFund x = fund("subscribe 0 1000;");
        for (int i = 1; i <= 10; i++) {
            x.setGate(i);
        }
        Tester.Call[] refused = {() -> x.subscribe(2, 1), () -> x.subscribe(0, 0), () -> x.redeem(0, 101),
            () -> x.withdraw(0), () -> x.earn(10000), () -> x.passDays(0), () -> x.transfer(0, 1, 101),
            () -> x.transfer(0, 0, 1), () -> x.setGate(0), () -> x.appendText(0, 0, 0, 0, 0), x::parseFund,
            x::runScript, () -> Tester.script(x, "deal;pass 0;"), x::writeReport, x::wouldMerge, x::wouldCrystallize};
        for (Tester.Call call : refused) {
            Tester.answer(call);
            T.due("undoDepth()", x.undoDepth(), 10);
        }
        for (int i = 9; i >= 1; i--) {
            // runScript() found an empty buffer once, which is a change of its own
            T.due("undo()", x.undo() + " " + x.count(4), i + " " + (i + 1));
        }
    }

    private static void undoLeavesTextReportAndError() {
        SeriesFund x = fund("subscribe 0 1000;");
        Tester.parse(x, "fund series 0 51 1;");
        int length = x.writeReport();
        x.earn(100);
        Tester.put(x, "pass 3;deal;");
        x.deal();
        x.subscribe(0, 5);
        T.due("undo()", x.undo() + " " + x.undo() + " " + x.undo(), "2 1 0");
        T.due("error and report", x.errorCode() + " " + x.errorPosition() + " " + x.reportByte(length - 1), "2 14 10");
        T.due("the text", x.truncateText(12) + " " + x.runScript() + " " + x.count(5), "12 2 3");
        Tester.put(x, "deal;");
        x.undo();
        T.state("undo() of nothing", x::undo);
        T.due("the text stays then, too", x.truncateText(5) + " " + x.runScript(), "5 1");
        Tester.put(x, "deal;");
        T.argument("a wrong call", () -> x.truncateText(6));
        T.argument("another one", () -> x.setGate(0));
        T.due("the text stays then, too", x.runScript() + " " + x.runScript(), "1 0");
    }

    private static void aNewFund() {
        SeriesFund x = new SeriesFund();
        T.index("investor 1", () -> x.subscribe(1, 1));
        T.state("redeem(0, 1)", () -> x.redeem(0, 1));
        T.index("transfer(0, 1, 1)", () -> x.transfer(0, 1, 1));
        T.argument("transfer(0, 0, 1)", () -> x.transfer(0, 0, 1));
        T.due("calls without a series", x.netAssets() + " " + x.gateLimit() + " " + x.requestedValue() + " "
                + x.wouldCrystallize() + " " + x.wouldMerge() + " " + x.feesIf(9999) + " " + x.valueOf(0) + " "
                + x.unitsOf(0) + " " + x.richest(0), "0 0 0 0 0 0 0 0 0");
        T.due("changes without a series", x.deal() + " " + x.earn(5) + " " + x.passDays(1) + " " + x.crystallize() + " "
                + x.merge() + " " + x.setGate(50) + " " + x.runScript() + " " + x.undoDepth(), "0 0 0 0 0 100 0 7");
        x.subscribe(0, 100);
        T.due("the method series, no fees", x.deal() + " " + x.earn(1000) + " " + x.seriesValue(0, 3) + " "
                + x.passDays(400) + " " + x.subscribe(0, 100) + " " + x.deal() + " " + x.count(6), "1 10 0 0 0 1 2");
    }
}
