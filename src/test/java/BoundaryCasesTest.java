/** Each boundary case that the document's sections 1 to 6 name, on both of its sides; worked out by hand. */
final class BoundaryCasesTest {
    private static final Tester T = new Tester("BoundaryCasesTest");

    public static void main(String[] args) {
        accruedFeeAtTheMark();
        lotsAndSeriesThatEnd();
        numbersAreNotUsedAgain();
        redeemingMoreThanThereIs();
        backIsTheSmallerOne();
        dueAtAndAboveTheEntry();
        noDueWithTheMethodSeries();
        unitsOfASubscription();
        creditAtAndAboveTheMark();
        requestedValueAndLimit();
        requestedValueOfNothing();
        investorsWithoutUnits();
        subscriptionsThatWait();
        managementFeeIsTruncated();
        crystallizingAroundTheMark();
        crystallizingADue();
        mergingAroundTheMarks();
        mergingTakesAllUnits();
        T.end();
    }

    private static SeriesFund fund(String method, int fee, int investors, String rest) {
        return Tester.fund("fund " + method + " 0 " + fee + " 100;investors " + investors + ";" + rest);
    }

    private static String lot(SeriesFund x, int lot) {
        StringBuilder out = new StringBuilder();
        for (int what = 0; what < 6; what++) {
            out.append(what > 0 ? " " : "").append(x.lot(lot, what));
        }
        return out.toString();
    }

    private static String series(SeriesFund x, int number) {
        StringBuilder out = new StringBuilder();
        for (int what = 0; what < 8; what++) {
            out.append(what > 0 ? " " : "").append(x.seriesValue(number, what));
        }
        return out.toString();
    }

    // ---- section 2

    private static void accruedFeeAtTheMark() {
        // 10, 11, 12 and 9 cents for a unit, whose mark is 10 cents
        T.due("excess 0", fund("series", 50, 1, "subscribe 0 10;").seriesValue(0, 3), 0);
        T.due("excess 1, half a cent", fund("series", 50, 1, "subscribe 0 11;").seriesValue(0, 3), 0);
        T.due("excess 2", fund("series", 50, 1, "subscribe 0 12;").seriesValue(0, 3), 1);
        SeriesFund x = fund("series", 50, 1, "subscribe 0 12;");
        T.due("net assets and price", x.netAssets() + " " + x.seriesValue(0, 5), "11 1100000");
        x.earn(-2500);
        T.due("excess below 0", x.seriesValue(0, 0) + " " + x.seriesValue(0, 3) + " " + x.netAssets(), "9 0 9");
        SeriesFund y = fund("series", 1, 1, "subscribe 0 1990;");
        y.earn(500);
        T.due("99 cents of excess at 1 percent", y.seriesValue(0, 0) + " " + y.seriesValue(0, 3), "2089 0");
        y.earn(5);
        T.due("100 cents", y.seriesValue(0, 0) + " " + y.seriesValue(0, 3), "2090 1");
        // the mark is 1050000: 3 units are worth 31.5 cents at it, which are truncated to 31
        SeriesFund z = fund("series", 50, 1, "subscribe 0 11;subscribe 0 10;subscribe 0 13;");
        T.due("34 cents, 3 units", series(z, 0), "34 3 1000000 2 1133333 1066666 0 3");
        z.crystallize();
        T.due("mark", series(z, 0), "32 3 1066666 0 1066666 1066666 0 3");
        z.earn(1000);
        // 35 - 31.99998, truncated to 31, is 4
        T.due("the worth at the mark is truncated", series(z, 0), "35 3 1066666 2 1166666 1100000 0 3");
    }

    private static void lotsAndSeriesThatEnd() {
        SeriesFund x = fund("series", 20, 3, "subscribe 0 1000;subscribe 1 500;subscribe 2 300;");
        x.redeem(1, 49);
        x.deal();
        T.due("a lot of one unit stays", x.count(7) + ", " + lot(x, 1), "3, 1 0 1 1000000 0 0");
        x.redeem(1, 1);
        x.deal();
        T.due("a lot without units is removed", x.count(7) + ", " + lot(x, 1), "2, 2 0 30 1000000 0 0");
        T.index("its index", () -> x.lot(2, 0));
        x.redeem(0, 100);
        x.redeem(2, 29);
        x.deal();
        T.due("a series of one unit stays open", x.count(6) + ", " + series(x, 0), "1, 10 1 1000000 0 1000000 "
                + "1000000 0 1");
        x.redeem(2, 1);
        x.deal();
        T.due("a series without units is closed", x.count(6) + " " + x.count(7) + " " + x.account(3) + " "
                + x.account(1), "0 0 1800 0");
        T.index("seriesValue of it", () -> x.seriesValue(0, 0));
        T.index("holding in it", () -> x.holding(0, 0));
        T.index("breakEven of it", () -> x.breakEven(0));
        // the last units take what truncation has left: 7 + 7 + 8 cents
        SeriesFund y = fund("series", 0, 1, "subscribe 0 30;");
        y.earn(-2500);
        T.due("assets", y.seriesValue(0, 0), 23);
        for (int i = 0; i < 3; i++) {
            y.redeem(0, 1);
            y.deal();
        }
        T.due("paid out and rounding", y.account(3) + " " + y.account(1) + " " + y.count(6), "23 0 0");
    }

    private static void numbersAreNotUsedAgain() {
        SeriesFund x = fund("series", 0, 2, "subscribe 0 100;");
        x.passDays(2);
        Tester.script(x, "subscribe 1 200;deal;pass 1;redeem 0 10;deal;subscribe 0 300;deal;");
        T.due("state", Tester.stateOf(x), "2 0 0 0 100 3 2 2 0 3\n0 0 600 100 0 0\n"
                + "s 1 200 20 1000000 0 1000000 1000000 2 1\ns 2 300 30 1000000 0 1000000 1000000 3 1\n"
                + "l 1 1 20 1000000 0 2\nl 0 2 30 1000000 0 3\n");
        x.undo();
        T.due("what is undone gives its number back", x.count(9), 1);
        SeriesFund six = fund("series", 0, 1, "subscribe 0 100;");
        for (int i = 1; i < 6; i++) {
            Tester.script(six, "subscribe 0 " + (100 + 10 * i) + ";deal;");
        }
        Tester.script(six, "redeem 0 10;deal;");
        T.due("five are open", six.count(6) + " " + six.count(9), "5 6");
        Tester.script(six, "pass 1;subscribe 0 990;deal;");
        for (int i = 1; i < 6; i++) {
            T.due("series " + i, series(six, i), (100 + 10 * i) + " " + (10 + i) + " 1000000 0 1000000 1000000 0 1");
        }
        T.due("series 6", series(six, 6), "990 99 1000000 0 1000000 1000000 1 1");
        T.due("the last place", six.openSeries(5), 6);
        T.index("no seventh", () -> six.openSeries(6));
    }

    // ---- section 3

    private static void redeemingMoreThanThereIs() {
        SeriesFund x = shrunken(100);
        T.due("requested and value", x.requestedValue() + " " + x.valueOf(0) + " " + x.request(0, 2), "100 100 10");
        T.due("what would be redeemed", x.wouldRedeem(0) + " " + x.dealsUntilDone(0) + " " + x.bestGate(0), "8 1 1");
        T.state("one more", () -> x.redeem(0, 1));
        T.state("nor can one be moved", () -> x.transfer(0, 1, 1));
        T.due("all of them", x.deal() + " " + x.unitsOf(0) + " " + x.account(3) + " " + x.count(8), "1 0 100 0");
        T.due("series", series(x, 0), "1250000 100000 1250000 0 1250000 1250000 0 1");
    }

    /** Investor 0 has asked for 10 units, of which merging has left 8; investor 1 has 100000 units. */
    private static SeriesFund shrunken(int gate) {
        SeriesFund x = Tester.fund("fund series 0 50 " + gate + ";investors 2;subscribe 1 1000000;");
        Tester.script(x, "gain 5000;crystallize;subscribe 0 100;deal;redeem 0 10;");
        T.due("merge()", x.merge(), 1);
        T.due("merged", series(x, 0) + ", " + lot(x, 1), "1250100 100008 1250000 0 1250000 1250000 0 2, "
                + "0 0 8 1250000 0 0");
        return x;
    }

    private static SeriesFund equalized() {
        SeriesFund x = fund("equal", 20, 2, "subscribe 0 1000000;");
        x.earn(5000);
        x.subscribe(1, 150000);
        x.deal();
        T.due("a credit", lot(x, 1), "1 0 10000 1500000 10000 0");
        x.redeem(1, 10000);
        return x;
    }

    private static void backIsTheSmallerOne() {
        SeriesFund x = equalized();
        x.earn(-2000);
        // base 1276000 * 10000 / 110000, part 44000 * 10000 / 110000
        T.due("part of the fee below the credit", x.deal() + " " + x.account(3) + " " + x.account(0), "1 120000 0");
        SeriesFund y = equalized();
        // base 1540000 / 11, part 110000 / 11
        T.due("both the same", y.deal() + " " + y.account(3) + " " + y.account(0), "1 150000 0");
        SeriesFund z = equalized();
        z.earn(2000);
        // base 1804000 / 11, part 176000 / 11
        T.due("credit below the part", z.deal() + " " + z.account(3) + " " + z.account(0), "1 174000 6000");
        SeriesFund u = equalized();
        u.earn(-5000);
        T.due("no fee, so nothing back", u.deal() + " " + u.account(3) + " " + u.account(0), "1 75000 0");
        SeriesFund v = fund("equal", 20, 2, "subscribe 0 1000000;");
        Tester.script(v, "gain 3500;subscribe 1 135;deal;");
        T.due("a credit of 7", lot(v, 1), "1 0 10 1350000 7 0");
        v.redeem(1, 3);
        v.deal();
        T.due("less 7 * 3 / 10", lot(v, 1) + ", " + v.account(3), "1 0 7 1350000 5 0, 40");
        v.redeem(1, 3);
        v.deal();
        T.due("less 5 * 3 / 7", lot(v, 1), "1 0 4 1350000 3 0");
        T.due("a part of a credit is moved", v.transfer(1, 0, 3) + ", " + lot(v, 1) + ", " + lot(v, 2),
                "1, 1 0 1 1350000 1 0, 0 0 3 1350000 2 0");
    }

    private static SeriesFund boughtBelowTheMark() {
        SeriesFund x = fund("equal", 20, 2, "subscribe 0 1000000;");
        Tester.script(x, "lose 5000;subscribe 1 50000;deal;redeem 1 10000;");
        return x;
    }

    private static void dueAtAndAboveTheEntry() {
        SeriesFund x = boughtBelowTheMark();
        T.due("a price at the entry", x.valueOf(1) + " " + x.seriesValue(0, 4), "50000 500000");
        x.earn(-1000);
        T.due("a price below it", x.valueOf(1) + " " + x.seriesValue(0, 4), "45000 450000");
        x.undo();
        x.earn(1);
        // base 50005, due 10000 * 50 * 20 / 100 / 100000
        T.due("a price above it", x.valueOf(1) + " " + x.seriesValue(0, 4), "50004 500050");
        x.deal();
        T.due("the manager gets what is due", x.account(0) + " " + x.account(3), "1 50004");
        SeriesFund y = boughtBelowTheMark();
        y.earn(9999);
        y.earn(1000);
        // base 1187952 / 11, part 21987 / 11, due 10000 * 500000 * 20 / 100 / 100000
        T.due("a price above the mark", y.valueOf(1) + " " + y.seriesValue(0, 4), "97995 1099944");
        y.deal();
        T.due("due and part", y.account(0) + " " + y.account(3), "11998 97995");
    }

    private static void noDueWithTheMethodSeries() {
        SeriesFund x = fund("series", 50, 1, "subscribe 0 1000000;");
        x.earn(-5000);
        T.due("crystallize() after a loss", x.crystallize() + ", " + lot(x, 0), "0, 0 0 100000 500000 0 0");
        x.earn(5000);
        T.due("value", x.valueOf(0), 750000);
        T.due("crystallize() below the mark", x.crystallize() + ", " + lot(x, 0), "0, 0 0 100000 750000 0 0");
        x.earn(1000);
        x.redeem(0, 40000);
        x.deal();
        T.due("paid out, and nothing for the manager", x.account(3) + " " + x.account(0), "330000 0");
    }

    private static void unitsOfASubscription() {
        SeriesFund x = fund("series", 0, 1, "subscribe 0 9;subscribe 0 10;subscribe 0 19;subscribe 0 9999999;");
        T.due("9 cents are no unit", x.count(7) + " " + x.request(0, 2), "3 9");
        T.due("one unit", lot(x, 0) + ", " + lot(x, 1), "0 0 1 1000000 0 0, 0 0 1 1000000 0 0");
        T.due("most units", lot(x, 2), "0 0 999999 1000000 0 0");
        SeriesFund y = fund("equal", 0, 1, "subscribe 0 1000000;");
        Tester.script(y, "lose 9000;lose 9000;lose 9000;lose 9000;lose 9000;lose 9000;");
        T.due("a gross price of 1", series(y, 0), "1 100000 1000000 0 1 1 0 1");
        y.subscribe(0, 101);
        y.subscribe(0, 1);
        y.subscribe(0, 100);
        T.due("more than 10000000 units, 100000 and 10000000", y.deal() + " " + y.request(0, 2) + ", " + lot(y, 1)
                + ", " + lot(y, 2), "2 101, 0 0 100000 1 0 0, 0 0 10000000 1 0 0");
        SeriesFund z = fund("equal", 0, 1, "subscribe 0 1000000;");
        Tester.script(z, "gain 5000;subscribe 0 14;subscribe 0 15;deal;");
        T.due("less than a unit, and one", z.count(8) + ", " + lot(z, 1), "1, 0 0 1 1500000 0 0");
    }

    private static void creditAtAndAboveTheMark() {
        SeriesFund x = fund("equal", 50, 2, "subscribe 0 1000000;subscribe 1 9999999;");
        T.due("a price at the mark", lot(x, 1), "1 0 999999 1000000 0 0");
        SeriesFund y = fund("equal", 50, 2, "subscribe 0 1000001;subscribe 1 9999999;");
        // 999998 * 1 * 50 / 100 / 100000
        T.due("a price one above it", lot(y, 1), "1 0 999998 1000001 4 0");
        T.due("the fee of 10 less the credit of 4", y.crystallize() + ", " + lot(y, 1) + ", " + series(y, 0),
                "6, 1 0 999998 1000000 0 0, 10999994 1099998 1000000 7 1000001 1000000 0 2");
        SeriesFund z = fund("equal", 50, 2, "subscribe 0 1000000;");
        Tester.script(z, "lose 1;subscribe 1 9999999;deal;");
        T.due("a price below it", lot(z, 1), "1 0 1000099 999900 0 0");
    }

    // ---- section 4

    private static void requestedValueAndLimit() {
        SeriesFund x = Tester.fund("fund series 0 0 50;investors 1;subscribe 0 1000;");
        x.redeem(0, 50);
        T.due("requested value and limit are equal", x.requestedValue() + " " + x.gateLimit() + " " + x.bestGate(0)
                + " " + x.wouldRedeem(0) + " " + x.deal(), "500 500 50 50 1");
        x.undo();
        x.withdraw(0);
        x.redeem(0, 51);
        T.due("a unit above the limit", x.requestedValue() + " " + x.gateLimit() + " " + x.bestGate(0) + " "
                + x.wouldRedeem(0) + " " + x.deal() + " " + x.request(0, 2), "510 500 51 50 0 1");
        SeriesFund y = fund("equal", 0, 1, "subscribe 0 10;");
        y.earn(-9000);
        T.due("a cent for a unit", series(y, 0), "1 1 1000000 0 100000 100000 0 1");
        y.setGate(99);
        y.redeem(0, 1);
        T.due("the limit is 0", y.requestedValue() + " " + y.gateLimit() + " " + y.wouldRedeem(0) + " "
                + y.bestGate(0) + " " + y.dealsUntilDone(0) + " " + y.deal(), "1 0 0 100 -1 0");
        y.setGate(100);
        T.due("the limit is 1", y.gateLimit() + " " + y.wouldRedeem(0) + " " + y.dealsUntilDone(0) + " " + y.deal(),
                "1 1 1 1");
    }

    private static void requestedValueOfNothing() {
        SeriesFund x = Tester.fund("fund equal 0 0 1;investors 1;subscribe 0 1000000;");
        Tester.script(x, "lose 9000;lose 9000;lose 9000;lose 9000;lose 9000;lose 9000;");
        x.redeem(0, 99999);
        T.due("units that are worth nothing", x.requestedValue() + " " + x.gateLimit() + " " + x.bestGate(0) + " "
                + x.wouldRedeem(0), "0 0 1 99999");
        T.due("deal()", x.deal() + ", " + series(x, 0) + ", " + x.account(3),
                "1, 1 1 1000000 0 100000 100000 0 1, 0");
    }

    private static void investorsWithoutUnits() {
        SeriesFund x = shrunken(80);
        x.redeem(1, 100000);
        T.due("requested value and limit", x.requestedValue() + " " + x.gateLimit(), "1250100 1000080");
        T.due("10 * 80 / 100 are all units", x.wouldRedeem(0) + " " + x.wouldRedeem(1), "8 80000");
        T.due("the least gates", x.bestGate(0) + " " + x.bestGate(1), "80 100");
        T.due("deal()", x.deal() + " " + x.count(8) + " " + x.request(0, 0) + " " + x.request(0, 2), "1 1 1 20000");
        SeriesFund y = shrunken(79);
        y.redeem(1, 100000);
        T.due("a unit is left", y.deal() + " " + y.unitsOf(0) + " " + y.request(0, 2) + " " + y.request(1, 2),
                "0 1 3 21000");
        // the last unit's 12 cents; 21000 units for 262500 of 262512 cents
        T.due("next time", y.requestedValue() + " " + y.wouldRedeem(0) + " " + y.dealsUntilDone(0), "262512 1 1");
        SeriesFund z = fund("series", 50, 2, "subscribe 1 1000000;");
        Tester.script(z, "gain 5000;crystallize;subscribe 0 10;deal;redeem 0 1;merge;");
        T.due("no units at all", z.unitsOf(0) + " " + z.requestedValue() + " " + z.wouldRedeem(0) + " " + z.bestGate(0)
                + " " + z.dealsUntilDone(0), "0 0 0 1 1");
        z.redeem(1, 90000);
        z.setGate(5);
        T.due("it is done, whatever the gate is", z.wouldRedeem(0) + " " + z.deal() + " " + z.request(0, 0), "0 1 1");
    }

    private static void subscriptionsThatWait() {
        SeriesFund x = Tester.fund("fund series 0 0 10;investors 1;subscribe 0 1000;");
        int[] amounts = {9, 20, 5};
        x.subscribe(0, amounts[0]);
        x.subscribe(0, amounts[1]);
        x.redeem(0, 50);
        x.subscribe(0, amounts[2]);
        T.due("one is carried out", x.deal() + " " + x.count(8), "1 3");
        T.due("the other ones stay in their order", x.request(0, 2) + " " + x.request(1, 2) + " " + x.request(2, 2),
                "9 40 5");
        SeriesFund y = fund("equal", 0, 1, "subscribe 0 9999999;");
        Tester.script(y, "lose 9000;lose 9000;lose 9000;lose 9000;lose 9000;lose 9000;lose 9000;subscribe 0 10;");
        T.due("the gross price is 0", y.seriesValue(0, 4) + " " + y.dealsUntilDone(0) + " " + y.deal(), "0 -1 0");
        y.redeem(0, 999999);
        T.due("a new series after the old one is closed", y.dealsUntilDone(0) + " " + y.deal() + ", " + series(y, 1),
                "1 2, 10 1 1000000 0 1000000 1000000 0 1");
        SeriesFund z = fund("series", 0, 1, "subscribe 0 100;");
        for (int i = 1; i < 6; i++) {
            Tester.script(z, "subscribe 0 100;deal;");
        }
        z.subscribe(0, 100);
        z.subscribe(0, 100);
        T.due("six are open", z.deal() + " " + z.dealsUntilDone(0) + " " + z.dealsUntilDone(1), "0 -1 -1");
        z.redeem(0, 9);
        T.due("six are open still", z.deal() + " " + z.count(6), "1 6");
        z.redeem(0, 1);
        T.due("the new series takes both", z.deal() + " " + z.count(6) + " " + z.seriesValue(6, 7), "3 6 2");
        SeriesFund w = fund("series", 0, 1, "subscribe 0 10;subscribe 0 10;subscribe 0 10;");
        for (int i = 3; i < 39; i++) {
            Tester.script(w, i % 12 == 11 ? "subscribe 0 10;deal;" : "subscribe 0 10;");
        }
        w.deal();
        T.due("39 lots", w.count(7) + " " + w.count(8), "39 0");
        Tester.script(w, "subscribe 0 9;subscribe 0 10;subscribe 0 10;");
        T.due("the fortieth, but no more", w.deal() + " " + w.count(7) + " " + w.count(8) + " " + w.deal(), "1 40 2 0");
    }

    // ---- section 5

    private static void managementFeeIsTruncated() {
        SeriesFund x = Tester.fund("fund series 3650 0 100;investors 1;subscribe 0 9999999;");
        T.due("9999.999 cents", x.passDays(1), 9999);
        SeriesFund y = Tester.fund("fund series 3650 0 100;investors 1;subscribe 0 1000;subscribe 0 999;");
        T.due("1.999 cents", y.passDays(1), 1);
        SeriesFund z = Tester.fund("fund series 3650 0 100;investors 1;subscribe 0 999;");
        T.due("a day of 0.999 cents", z.passDays(400) + " " + z.netAssets() + " " + z.count(5), "0 999 400");
        SeriesFund u = Tester.fund("fund series 3650 0 100;investors 1;subscribe 0 1000;");
        T.due("a cent on the first day alone", u.passDays(400) + " " + u.netAssets() + " " + u.account(5) + " "
                + u.account(0), "1 999 1 1");
        SeriesFund v = Tester.fund("fund series 0 0 100;investors 1;subscribe 0 9999999;");
        T.due("no rate, no fee", v.passDays(400) + " " + v.count(5), "0 400");
    }

    private static void crystallizingAroundTheMark() {
        // 2000000 cents for 100000 units, 200000 for 10000 more with a credit of 20000
        SeriesFund x = fund("equal", 20, 2, "subscribe 0 1000000;");
        Tester.script(x, "gain 2500;gain 6000;subscribe 1 200000;deal;");
        T.due("credit", lot(x, 1), "1 0 10000 2000000 20000 0");
        x.earn(-5000);
        T.due("a price at the mark", x.seriesValue(0, 4) + " " + x.crystallize() + ", " + lot(x, 1) + " "
                + x.seriesValue(0, 2), "1000000 0, 1 0 10000 1000000 0 0 1000000");
        x.undo();
        x.undo();
        x.earn(-2500);
        // fee 550000 / 5; back 20000 * 500000 / 1000000; 10000 * 100000 / 1400000 units more
        T.due("a price between mark and entry", x.seriesValue(0, 4) + " " + x.crystallize() + ", " + lot(x, 1) + " "
                + x.seriesValue(0, 2), "1500000 100000, 1 0 10714 1400000 0 0 1400000");
        x.undo();
        x.undo();
        x.earn(1000);
        // fee 1320000 / 5, the whole credit
        T.due("a price above the entry", x.seriesValue(0, 4) + " " + x.crystallize() + ", " + lot(x, 1) + " "
                + x.seriesValue(0, 2), "2200000 244000, 1 0 11020 1960000 0 0 1960000");
        // 2176000 cents, 111020 units, whose worth at the mark is 2175992
        T.due("what truncation left above the mark", x.crystallize() + " " + x.seriesValue(0, 2), "1 1960006");
    }

    private static void crystallizingADue() {
        SeriesFund x = fund("equal", 50, 2, "subscribe 0 1000;");
        Tester.script(x, "lose 5000;subscribe 1 10;deal;");
        T.due("a price at the entry", x.crystallize() + ", " + series(x, 0), "0, 510 102 1000000 0 500000 500000 0 2");
        x.undo();
        x.earn(4000);
        // 2 units * 200000 * 50 / 100 / 100000 is due, which is less than a unit
        T.due("a due of less than a unit", x.crystallize() + ", " + series(x, 0), "2, 712 102 1000000 0 698039 698039 0 2");
        T.due("lots", lot(x, 0) + ", " + lot(x, 1), "0 0 100 700000 0 0, 1 0 2 700000 0 0");
        SeriesFund y = fund("equal", 50, 2, "subscribe 0 1000;");
        Tester.script(y, "lose 5000;subscribe 1 500;deal;gain 9999;");
        // 1000 cents became 1999 for 200 units; due is 100 * 499500 * 50 / 100 / 100000
        T.due("a price below the mark", y.seriesValue(0, 4) + " " + y.crystallize() + ", " + lot(y, 1), "999500 249, "
                + "1 0 76 999500 0 0");
        y.undo();
        y.earn(1000);
        // 2198: fee 99; p 1049500; due 100 * 500000 * 50 / 100 / 100000, of which 23 units
        T.due("a price above the mark", y.seriesValue(0, 4) + " " + y.crystallize() + ", " + lot(y, 1) + ", "
                + y.seriesValue(0, 2), "1099000 349, 1 0 77 1049500 0 0, 1049500");
    }

    // ---- section 6

    private static void mergingAroundTheMarks() {
        SeriesFund x = fund("series", 0, 2, "subscribe 0 1000001;");
        Tester.script(x, "subscribe 1 100;deal;");
        T.due("the lead is one above its mark", x.seriesValue(0, 4) + " " + x.merge() + " " + x.wouldMerge(),
                "1000001 0 0");
        SeriesFund y = fund("series", 0, 2, "subscribe 0 1000000;");
        y.earn(-1);
        Tester.script(y, "subscribe 1 100;deal;");
        T.due("the lead is below its mark", y.seriesValue(0, 4) + " " + y.merge(), "999900 0");
        SeriesFund z = fund("series", 0, 2, "subscribe 0 1000000;");
        Tester.script(z, "subscribe 1 1000001;deal;subscribe 1 100;deal;subscribe 1 101;deal;");
        T.due("those at their own marks", z.wouldMerge() + " " + z.merge() + " " + z.count(6) + " " + z.openSeries(1)
                + " " + z.openSeries(2), "1 1 3 1 3");
        SeriesFund u = fund("series", 0, 2, "subscribe 0 100;");
        Tester.script(u, "subscribe 1 200;deal;subscribe 1 1000000;deal;");
        Tester.script(u, "redeem 0 10;deal;");
        T.due("the lead is the lowest open one", u.merge() + " " + u.count(6) + ", " + series(u, 1),
                "1 1, 1000200 100020 1000000 0 1000000 1000000 0 2");
        SeriesFund v = fund("series", 0, 2, "subscribe 0 1000;");
        Tester.script(v, "pass 1;subscribe 1 500;deal;");
        v.transfer(0, 1, 40);
        v.redeem(0, 60);
        v.deal();
        T.due("lots", lot(v, 0) + ", " + lot(v, 1), "1 1 50 1000000 0 1, 1 0 40 1000000 0 0");
        T.due("the first lot is merged, too", v.merge() + " " + v.holding(1, 0) + ", " + lot(v, 0) + ", "
                + series(v, 0), "1 90, 1 0 50 1000000 0 1, 900 90 1000000 0 1000000 1000000 0 2");
        T.index("it is closed", () -> v.holding(1, 1));
    }

    private static void mergingTakesAllUnits() {
        SeriesFund x = fund("series", 50, 2, "subscribe 1 1000000;");
        Tester.script(x, "gain 5000;crystallize;subscribe 0 10;deal;");
        T.due("units", x.unitsOf(0) + " " + x.count(6) + " " + x.valueOf(0), "1 2 10");
        T.due("merge()", x.merge() + " " + x.count(6) + " " + x.count(7) + " " + x.unitsOf(0), "1 1 1 0");
        T.due("the lead has the assets", series(x, 0) + " " + x.account(1),
                "1250010 100000 1250000 5 1250010 1250005 0 1 0");
    }
}
