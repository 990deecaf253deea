import java.math.BigInteger;
import java.util.ArrayList;
import java.util.List;
import java.util.Random;

/** A SeriesFund and a PlainFund that are given the same calls, and have to answer the same. */
final class SideBySide {
    static final String INDEX = "throws.IndexOutOfBoundsException";
    static final String ARGUMENT = "throws.IllegalArgumentException";
    static final String STATE = "throws.IllegalStateException";

    final Tester tester;
    final Random random;
    SeriesFund fund = new SeriesFund();
    PlainFund plain = new PlainFund();
    final List<PlainFund> past = new ArrayList<>();
    /** How many rates below the one that rateFor() answers are tried, whether they reach the value, too. */
    int bruteRates = 60;
    String trace = "";

    SideBySide(Tester tester, Random random) {
        this.tester = tester;
        this.random = random;
    }

    void begin(String title) {
        fund = new SeriesFund();
        plain = new PlainFund();
        past.clear();
        trace = title;
    }

    void check(String what, Object got, Object want) {
        tester.due(what, got, want);
    }

    void same() {
        check("state", Tester.stateOf(fund), plain.state());
    }

    int pick(int least, int most) {
        return least + random.nextInt(most - least + 1);
    }

    static PlainFund.R request(int investor, boolean redemption, long quantity, int day) {
        PlainFund.R r = new PlainFund.R();
        r.investor = investor;
        r.redemption = redemption;
        r.quantity = PlainFund.n(quantity);
        r.day = day;
        return r;
    }

    /** What a change answers, or the exception; the state is changed where it succeeds. */
    static String apply(PlainFund f, String op, int a, int b, int c) {
        switch (op) {
            case "subscribe":
                if (a < 0 || a >= f.investors) {
                    return INDEX;
                }
                if (b < 1 || b > 9999999) {
                    return ARGUMENT;
                }
                if (f.requests.size() == 12) {
                    return STATE;
                }
                f.requests.add(request(a, false, b, f.day));
                return "" + (f.requests.size() - 1);
            case "redeem":
                if (a < 0 || a >= f.investors) {
                    return INDEX;
                }
                if (b < 1 || b > 99999999) {
                    return ARGUMENT;
                }
                if (f.requests.size() == 12
                        || f.waitingUnits(a).add(PlainFund.n(b)).compareTo(f.unitsOf(a)) > 0) {
                    return STATE;
                }
                f.requests.add(request(a, true, b, f.day));
                return "" + (f.requests.size() - 1);
            case "withdraw":
                if (a < 0 || a >= f.requests.size()) {
                    return INDEX;
                }
                return "" + f.requests.remove(a).quantity;
            case "deal":
                return "" + f.deal();
            case "earn":
                if (a < -9000 || a > 9999) {
                    return ARGUMENT;
                }
                return f.mayEarn(a) ? "" + f.earn(a) : STATE;
            case "pass":
                return a < 1 || a > 400 ? ARGUMENT : "" + f.passDays(a);
            case "crystallize":
                return "" + f.crystallize();
            case "merge":
                return "" + f.merge();
            case "gate":
                if (a < 1 || a > 100) {
                    return ARGUMENT;
                }
                int old = f.gate;
                f.gate = a;
                return "" + old;
            default:
                if (a < 0 || a >= f.investors || b < 0 || b >= f.investors) {
                    return INDEX;
                }
                if (a == b || c < 1 || c > 99999999) {
                    return ARGUMENT;
                }
                if (f.unitsOf(a).compareTo(f.waitingUnits(a).add(PlainFund.n(c))) < 0
                        || f.lots.size() == 40 && f.needsNewLot(a, PlainFund.n(c))) {
                    return STATE;
                }
                return "" + f.transfer(a, b, PlainFund.n(c));
        }
    }

    private Object really(String op, int a, int b, int c) {
        switch (op) {
            case "subscribe":
                return Tester.answer(() -> fund.subscribe(a, b));
            case "redeem":
                return Tester.answer(() -> fund.redeem(a, b));
            case "withdraw":
                return Tester.answer(() -> fund.withdraw(a));
            case "deal":
                return Tester.answer(() -> fund.deal());
            case "earn":
                return Tester.answer(() -> fund.earn(a));
            case "pass":
                return Tester.answer(() -> fund.passDays(a));
            case "crystallize":
                return Tester.answer(() -> fund.crystallize());
            case "merge":
                return Tester.answer(() -> fund.merge());
            case "gate":
                return Tester.answer(() -> fund.setGate(a));
            default:
                return Tester.answer(() -> fund.transfer(a, b, c));
        }
    }

    void one(String op, int a, int b, int c) {
        trace += "\n" + op + " " + a + " " + b + " " + c;
        PlainFund before = plain.copy();
        String want = apply(plain, op, a, b, c);
        if (want.startsWith("throws")) {
            plain = before;
        } else {
            remember(before);
        }
        check(op, really(op, a, b, c), want);
    }

    void remember(PlainFund before) {
        past.add(before);
        if (past.size() > 10) {
            past.remove(0);
        }
    }

    void undo() {
        trace += "\nundo";
        check("undoDepth", fund.undoDepth(), past.size());
        Object got = Tester.answer(() -> fund.undo());
        if (past.isEmpty()) {
            check("undo", got, STATE);
        } else {
            plain = past.remove(past.size() - 1);
            check("undo", got, past.size());
        }
    }

    // ---- look-aheads and questions

    void lookAhead() {
        check("netAssets", fund.netAssets(), plain.netAssets());
        check("requestedValue", fund.requestedValue(), plain.requestedValue());
        check("gateLimit", fund.gateLimit(), plain.limit());
        check("wouldCrystallize", fund.wouldCrystallize(), plain.copy().crystallize());
        PlainFund settled = plain.copy();
        settled.crystallize();
        check("wouldMerge", fund.wouldMerge(), settled.merge());
        check("report", Tester.report(fund), plain.report());
        int rate = pick(-9000, 9999);
        check("feesIf " + rate, fund.feesIf(rate), plain.feesIf(rate));
        for (int i = 0; i < plain.requests.size(); i++) {
            check("wouldRedeem " + i, fund.wouldRedeem(i), plain.wouldRedeem(i));
            check("bestGate " + i, fund.bestGate(i), plain.bestGate(i));
            if (random.nextInt(6) == 0) {
                check("dealsUntilDone " + i, fund.dealsUntilDone(i), plain.dealsUntilDone(i));
            }
        }
        values();
        rates();
        BigInteger net = plain.netAssets();
        BigInteger goal = net.multiply(PlainFund.n(pick(0, 101))).divide(PlainFund.n(100));
        check("daysUntil " + goal, fund.daysUntil(goal.longValue()), plain.daysUntil(goal));
    }

    private void values() {
        BigInteger sum = BigInteger.ZERO;
        List<Integer> order = new ArrayList<>();
        for (int i = 0; i < plain.investors; i++) {
            check("unitsOf " + i, fund.unitsOf(i), plain.unitsOf(i));
            check("valueOf " + i, fund.valueOf(i), plain.valueOf(i));
            for (PlainFund.S s : plain.series) {
                check("holding", fund.holding(i, s.number), plain.holding(i, s.number));
            }
            sum = sum.add(plain.valueOf(i));
            order.add(i);
        }
        order.sort((a, b) -> plain.valueOf(b).compareTo(plain.valueOf(a)));
        for (int i = 0; i < plain.investors; i++) {
            check("richest " + i, fund.richest(i), order.get(i));
            int investor = i;
            Object want = sum.signum() == 0 ? "throws.ArithmeticException"
                    : plain.valueOf(i).doubleValue() / sum.doubleValue();
            check("share " + i, Tester.answer(() -> fund.share(investor)), want);
        }
    }

    private void rates() {
        for (PlainFund.S s : plain.series) {
            Object got = Tester.answer(() -> fund.breakEven(s.number));
            if (got instanceof Integer) {
                int r = (Integer) got;
                check("breakEven reaches", plain.grossAfter(s.number, r).compareTo(s.mark) >= 0, true);
                check("breakEven is least",
                        r == -9000 || plain.grossAfter(s.number, r - 1).compareTo(s.mark) < 0, true);
            } else {
                check("breakEven", got, "throws.NoSuchElementException");
                check("breakEven misses", plain.grossAfter(s.number, 9999).compareTo(s.mark) < 0, true);
            }
        }
        int investor = random.nextInt(plain.investors);
        long value = plain.valueOf(investor).longValue() * pick(1, 250) / 100 + pick(-1, 2);
        Object got = Tester.answer(() -> fund.rateFor(investor, value));
        int found = got instanceof Integer ? (Integer) got : 10000;
        trace += "\nrateFor " + investor + " " + value;
        if (found < 10000) {
            check("rateFor reaches", reaches(investor, found, value), true);
        } else {
            check("rateFor", got, "throws.NoSuchElementException");
        }
        for (int r = found - 1; r >= -9000 && r >= found - bruteRates; r--) {
            check("rateFor is least, " + r, reaches(investor, r, value), false);
        }
    }

    private boolean reaches(int investor, int rate, long value) {
        return plain.valueAfter(investor, rate).compareTo(PlainFund.n(value)) >= 0;
    }
}
