/** Promises 30 to 40: looking ahead. */
final class ThoughtPromisesTest {
    private static final Tester T = new Tester("ThoughtPromisesTest");

    public static void main(String[] args) {
        promise30RequestedValue();
        promise31GateLimit();
        promise32WouldRedeem();
        promise33DealsUntilDone();
        promise34FeesIf();
        promise35BreakEven();
        promise36RateFor();
        promise36FallsOfACent();
        promise37DaysUntil();
        promise38WouldCrystallize();
        promise39WouldMerge();
        promise40BestGate();
        T.end();
    }

    private static SeriesFund gated(int gate) {
        SeriesFund x = Tester.fund("fund series 0 0 " + gate + ";investors 2;subscribe 0 6000;subscribe 1 4000;");
        x.redeem(0, 300);
        x.subscribe(1, 5);
        x.redeem(1, 100);
        return x;
    }

    private static void promise30RequestedValue() {
        T.due("two redemptions", gated(10).requestedValue(), 4000);
        T.due("none", new SeriesFund().requestedValue(), 0);
        SeriesFund x = Tester.fund("fund series 0 50 100;investors 1;subscribe 0 17;subscribe 0 26;");
        x.redeem(0, 2);
        x.redeem(0, 1);
        // 43 cents, 3 units, fee 6. The first one alone: base 37 / 3, then of 29 cents, fee 4: 25 / 2; the
        // other one: 37 / 3
        T.due("each one alone, lot by lot", x.requestedValue(), 12 + 12 + 12);
        SeriesFund y = Tester.fund("fund equal 0 20 100;investors 2;subscribe 0 1000000;");
        y.earn(5000);
        y.subscribe(1, 150000);
        y.deal();
        y.redeem(1, 10000);
        T.due("base alone, without the credit", y.requestedValue() + " " + y.valueOf(1), "140000 150000");
    }

    private static void promise31GateLimit() {
        T.due("10 percent", gated(10).gateLimit(), 1000);
        T.due("of nothing", new SeriesFund().gateLimit(), 0);
        SeriesFund x = Tester.fund("fund series 0 20 33;investors 1;subscribe 0 1000;");
        x.earn(5000);
        T.due("of the net assets, truncated", x.gateLimit(), 1400 * 33 / 100);
        x.setGate(1);
        T.due("1 percent", x.gateLimit(), 14);
    }

    private static void promise32WouldRedeem() {
        SeriesFund x = gated(10);
        T.due("parts", x.wouldRedeem(0) + " " + x.wouldRedeem(1) + " " + x.wouldRedeem(2), "75 0 25");
        SeriesFund y = gated(40);
        T.due("all", y.wouldRedeem(0) + " " + y.wouldRedeem(1) + " " + y.wouldRedeem(2), "300 0 100");
        T.index("wouldRedeem(3)", () -> x.wouldRedeem(3));
        T.index("wouldRedeem(-1)", () -> x.wouldRedeem(-1));
    }

    private static void promise33DealsUntilDone() {
        SeriesFund x = gated(10);
        // 10000, 300 and 100 units: 1000 of 4000, 900 of 3000, 810 of 2100, 729 of 1290, 656 of 570
        T.due("with a gate", x.dealsUntilDone(0) + " " + x.dealsUntilDone(2), "5 5");
        T.due("a subscription without units", x.dealsUntilDone(1), -1);
        T.due("at once", gated(40).dealsUntilDone(2), 1);
        T.index("dealsUntilDone(3)", () -> x.dealsUntilDone(3));
        T.index("dealsUntilDone(-1)", () -> x.dealsUntilDone(-1));
        x.subscribe(0, 10);
        x.subscribe(0, 9);
        T.due("later ones move up", x.dealsUntilDone(3) + " " + x.dealsUntilDone(4), "1 -1");
        SeriesFund y = Tester.fund("fund series 0 0 1;investors 1;subscribe 0 1000;");
        y.redeem(0, 1);
        T.due("no unit within the gate", y.dealsUntilDone(0), 1);
        y.redeem(0, 99);
        T.due("truncated to nothing for ever", y.dealsUntilDone(0), -1);
        hundredDeals();
    }

    /** The most units that are redeemed by the 100th dealing, and one more. */
    private static void hundredDeals() {
        int units = 63000;
        while (units < 64000 && dealsOf(units + 1) <= 100) {
            units++;
        }
        T.due("dealings for " + units, dealsOf(units) + " " + dealsOf(units + 1), "100 101");
        T.due("100 dealings are enough", tenThousand(units).dealsUntilDone(0), 100);
        T.due("100 dealings are not enough", tenThousand(units + 1).dealsUntilDone(0), -1);
    }

    private static SeriesFund tenThousand(int units) {
        SeriesFund x = Tester.fund("fund series 0 0 1;investors 1;subscribe 0 1000000;");
        x.redeem(0, units);
        return x;
    }

    private static int dealsOf(int units) {
        SeriesFund x = tenThousand(units);
        int deals = 0;
        while (x.count(8) > 0) {
            x.deal();
            deals++;
        }
        return deals;
    }

    private static void promise34FeesIf() {
        SeriesFund x = Tester.fund("fund series 0 20 100;investors 1;subscribe 0 1000000;");
        x.earn(1000);
        x.subscribe(0, 100000);
        x.deal();
        T.due("feesIf(0)", x.feesIf(0), 20000);
        T.due("feesIf(1000)", x.feesIf(1000), 42000 + 2000);
        T.due("feesIf(-909)", x.feesIf(-909), 2);
        T.due("feesIf(-9000)", x.feesIf(-9000), 0);
        T.due("feesIf(9999)", x.feesIf(9999), (1100000 + 1099890 - 1000000) / 5 + 99990 / 5);
        T.argument("feesIf(-9001)", () -> x.feesIf(-9001));
        T.argument("feesIf(10000)", () -> x.feesIf(10000));
        T.due("of no series", new SeriesFund().feesIf(5), 0);
        StringBuilder text = new StringBuilder("fund series 0 10 100;investors 1;");
        for (int i = 0; i < 12; i++) {
            text.append("subscribe 0 9999999;");
        }
        SeriesFund y = Tester.fund(text.toString());
        Tester.script(y, "gain 9999;gain 9999;gain 9999;");
        T.state("earn(9999)", () -> y.earn(9999));
        T.due("the limits of earn() do not matter", y.feesIf(9999),
                (959855910L + 959855910L * 9999 / 10000 - 119999880L) / 10);
    }

    private static void promise35BreakEven() {
        SeriesFund x = Tester.fund("fund series 0 20 100;investors 1;subscribe 0 1000000;");
        T.due("at its mark", x.breakEven(0), 0);
        x.earn(1000);
        T.due("above its mark", x.breakEven(0), -909);
        x.earn(-5000);
        // 550000 * 8182 / 10000 = 450010
        T.due("below its mark", x.breakEven(0), 8182);
        x.earn(-1000);
        T.missing("no rate", () -> x.breakEven(0));
        T.index("breakEven(1)", () -> x.breakEven(1));
        T.index("breakEven(-1)", () -> x.breakEven(-1));
        SeriesFund y = Tester.fund("fund series 0 20 100;investors 1;subscribe 0 10;");
        Tester.script(y, "gain 9999;gain 9999;gain 9999;gain 9999;");
        T.due("assets of one unit", y.seriesValue(0, 0), 145);
        // 145 - 130 = 15, 145 - 135 = 10; -135 cents from 9311 on
        T.due("a loss that is truncated", y.breakEven(0), -9000);
        SeriesFund z = Tester.fund("fund series 0 20 100;investors 1;subscribe 0 10;");
        z.earn(9999);
        // 19 cents: 19 * 5263 / 10000 is 9.9997, so -5263 leaves 10; -5264 takes 10.0016 away; so -5263 and up to it
        T.due("the least of equal ones", z.breakEven(0), -5263);
        z.earn(-5264);
        T.due("9 cents", z.seriesValue(0, 0) + " " + z.breakEven(0), "9 1112");
        SeriesFund u = Tester.fund("fund series 0 20 100;investors 1;subscribe 0 20015;");
        u.earn(-5001);
        T.due("10006 cents come to the mark with the greatest rate", u.seriesValue(0, 0) + " " + u.breakEven(0),
                "10006 9999");
        z.earn(-5000);
        T.due("5 cents", z.seriesValue(0, 0) + " " + Tester.answer(() -> z.breakEven(0)),
                "5 throws.NoSuchElementException");
    }

    private static void promise36RateFor() {
        SeriesFund x = Tester.fund("fund series 0 20 100;investors 2;subscribe 0 1000000;");
        T.due("what there is", x.rateFor(0, 1000000), 0);
        T.due("a cent more", x.rateFor(0, 1000001), 1);
        T.due("a cent less", x.rateFor(0, 999999), 0);
        T.due("half", x.rateFor(0, 500000), -5000);
        T.due("with the fee", x.rateFor(0, 1080000), 1000);
        T.due("with the fee, a cent more", x.rateFor(0, 1080001), 1001);
        T.due("the least rate", x.rateFor(0, 100000), -9000);
        T.due("less than that", x.rateFor(0, 5), -9000);
        T.due("nothing", x.rateFor(1, 0), -9000);
        T.due("less than nothing", x.rateFor(1, Long.MIN_VALUE), -9000);
        T.due("the greatest rate", x.rateFor(0, 1000000 + 999900 - 199980), 9999);
        T.missing("above it", () -> x.rateFor(0, 1000000 + 999900 - 199980 + 1));
        T.missing("the greatest value", () -> x.rateFor(0, Long.MAX_VALUE));
        T.missing("of an investor without units", () -> x.rateFor(1, 1));
        T.index("rateFor(2, 0)", () -> x.rateFor(2, 0));
        T.index("rateFor(-1, greatest)", () -> x.rateFor(-1, Long.MAX_VALUE));
    }

    /** The truncated due can make the pay fall by a cent while the rate rises, so each rate is tried here. */
    private static void promise36FallsOfACent() {
        SeriesFund x = Tester.fund("fund equal 0 50 100;investors 2;subscribe 0 99999;");
        x.earn(-7000);
        for (int i = 0; i < 6; i++) {
            x.subscribe(1, 9 + 2 * i);
        }
        x.deal();
        int falls = 0;
        long[] values = new long[19000];
        for (int rate = -9000; rate <= 9999; rate++) {
            SeriesFund y = x;
            y.earn(rate);
            values[rate + 9000] = y.valueOf(1);
            y.undo();
            falls += rate > -9000 && values[rate + 9000] < values[rate + 8999] ? 1 : 0;
        }
        T.due("there are falls", falls > 0, true);
        for (long value = 0; value < 200; value++) {
            int least = 0;
            while (least < 19000 && values[least] < value) {
                least++;
            }
            long wanted = value;
            T.call("rateFor(1, " + value + ")", () -> x.rateFor(1, wanted),
                    least < 19000 ? (Object) (least - 9000) : "throws.NoSuchElementException");
        }
    }

    private static void promise37DaysUntil() {
        SeriesFund x = Tester.fund("fund series 3650 0 100;investors 1;subscribe 0 1000000;");
        T.due("already", x.daysUntil(1000000), 0);
        T.due("a cent less", x.daysUntil(999999), 1);
        T.due("after one day", x.daysUntil(999000), 1);
        T.due("after two days", x.daysUntil(998001), 2);
        T.due("not after two days", x.daysUntil(998000), 3);
        T.due("never", x.daysUntil(0), -1);
        T.argument("daysUntil(-1)", () -> x.daysUntil(-1));
        T.argument("daysUntil(least)", () -> x.daysUntil(Long.MIN_VALUE));
        T.due("the greatest assets", x.daysUntil(Long.MAX_VALUE), 0);
        SeriesFund y = Tester.fund("fund series 3650 0 100;investors 1;subscribe 0 1000000;");
        y.passDays(400);
        long after = y.netAssets();
        T.due("after 400 days", x.daysUntil(after), 400);
        T.due("not after 400 days", x.daysUntil(after - 1), -1);
        T.due("without assets", new SeriesFund().daysUntil(0), 0);
        SeriesFund z = Tester.fund("fund series 3650 50 100;investors 1;subscribe 0 1000000;");
        z.earn(1000);
        // net 1050000; a day takes 1100 of the assets, half of it from the fee
        T.due("net assets, not assets", z.daysUntil(1049450) + " " + z.daysUntil(1049449), "1 2");
    }

    private static void promise38WouldCrystallize() {
        SeriesFund x = Tester.fund("fund equal 0 20 100;investors 2;subscribe 0 1000000;");
        T.due("without a gain", x.wouldCrystallize(), 0);
        x.earn(5000);
        x.subscribe(1, 150000);
        x.deal();
        T.due("with a credit", x.wouldCrystallize(), 100000);
        T.due("nothing has changed", x.account(0) + " " + x.undoDepth(), "0 3");
        T.due("as crystallize()", x.crystallize(), 100000);
        T.due("of no series", new SeriesFund().wouldCrystallize(), 0);
    }

    private static void promise39WouldMerge() {
        SeriesFund x = Tester.fund("fund series 0 20 100;investors 2;subscribe 0 1000000;");
        x.earn(1000);
        Tester.script(x, "subscribe 1 108000;deal;subscribe 0 500;deal;");
        T.due("after crystallizing", x.wouldMerge(), 2);
        T.due("not before it", x.merge(), 0);
        x.earn(-1000);
        T.due("a lead below its mark", x.wouldMerge(), 0);
        T.due("state", x.count(6), 3);
        x.undo();
        T.due("of the present state", x.wouldMerge(), 2);
        T.due("of no series", new SeriesFund().wouldMerge(), 0);
        T.due("equalization", Tester.fund("fund equal 0 0 100;investors 1;subscribe 0 10;").wouldMerge(), 0);
    }

    private static void promise40BestGate() {
        SeriesFund x = gated(10);
        T.due("redemptions", x.bestGate(0) + " " + x.bestGate(2), "40 40");
        T.due("a subscription", x.bestGate(1), -1);
        x.setGate(100);
        T.due("whatever the gate is", x.bestGate(0) + " " + x.count(4), "40 100");
        T.index("bestGate(3)", () -> x.bestGate(3));
        T.index("bestGate(-1)", () -> x.bestGate(-1));
        SeriesFund y = Tester.fund("fund series 0 0 5;investors 1;subscribe 0 10019;");
        y.redeem(0, 1);
        T.due("the least gate", y.bestGate(0), 1);
        y.redeem(0, 1000);
        T.due("with another one", y.bestGate(0), 100);
        noGate();
    }

    /** Crystallizing leaves investor 0 fewer units than wait, so more is requested than the fund has. */
    private static void noGate() {
        SeriesFund x = Tester.fund("fund equal 0 50 100;investors 2;subscribe 1 10000;subscribe 0 10;");
        Tester.script(x, "lose 9000;subscribe 0 10000;deal;");
        Tester.script(x, "redeem 0 6000;redeem 0 4001;redeem 1 1000;");
        T.due("before", x.requestedValue() + " " + x.netAssets() + " " + x.bestGate(2), "11001 11001 100");
        Tester.script(x, "gain 9999;gain 9999;gain 9999;crystallize;");
        T.due("units", x.unitsOf(0) < 6000, true);
        T.due("more is requested than there is", x.requestedValue() > x.netAssets(), true);
        T.due("no gate for investor 1", x.bestGate(2), -1);
        x.setGate(100);
        T.due("the dealing takes the units of investor 0", x.deal() + " " + x.unitsOf(0) + " " + x.count(8), "2 0 1");
    }
}
