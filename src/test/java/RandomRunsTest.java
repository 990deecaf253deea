import java.math.BigInteger;
import java.util.ArrayList;
import java.util.List;
import java.util.Random;

/** Random runs on SeriesFund and on PlainFund, which have to answer the same. The seeds are fixed. */
final class RandomRunsTest {
    private static final String INDEX = "throws.IndexOutOfBoundsException";
    private static final String ARGUMENT = "throws.IllegalArgumentException";
    private static final String STATE = "throws.IllegalStateException";

    private final Random random;
    private final Tester tester = new Tester("RandomRunsTest");
    private SeriesFund fund = new SeriesFund();
    private PlainFund plain = new PlainFund();
    private final List<PlainFund> past = new ArrayList<>();
    private int amounts;
    private boolean busy;
    private int bruteRates;
    private String trace = "";

    RandomRunsTest(long seed) {
        random = new Random(seed);
    }

    public static void main(String[] args) {
        int runs = args.length > 0 ? Integer.parseInt(args[0]) : 250;
        long seed = args.length > 1 ? Long.parseLong(args[1]) : 20261118L;
        int brute = args.length > 2 ? Integer.parseInt(args[2]) : 60;
        RandomRunsTest test = new RandomRunsTest(seed);
        test.bruteRates = brute;
        for (int run = 0; run < runs && test.tester.wrong() == 0; run++) {
            test.run(run);
        }
        if (test.tester.wrong() > 0) {
            System.out.println(test.trace);
        }
        test.tester.end();
    }

    private void run(int number) {
        fund = new SeriesFund();
        plain = new PlainFund();
        past.clear();
        trace = "run " + number;
        amounts = random.nextInt(5);
        busy = random.nextInt(4) == 0;
        newFund();
        int calls = 20 + random.nextInt(100);
        for (int i = 0; i < calls && tester.wrong() == 0; i++) {
            change();
            check("state", Tester.stateOf(fund), plain.state());
            if (random.nextInt(4) == 0) {
                lookAhead();
                check("state after look-ahead", Tester.stateOf(fund), plain.state());
            }
        }
    }

    private void check(String what, Object got, Object want) {
        tester.due(what, got, want);
    }

    private int pick(int least, int most) {
        return least + random.nextInt(most - least + 1);
    }

    private void newFund() {
        PlainFund f = new PlainFund();
        f.equal = random.nextBoolean();
        f.rate = random.nextInt(4) == 0 ? 9999 : random.nextInt(3) == 0 ? 0 : random.nextInt(1000);
        f.fee = random.nextInt(4) == 0 ? 50 : random.nextInt(51);
        f.gate = random.nextInt(3) == 0 ? 100 : random.nextInt(3) == 0 ? pick(1, 5) : pick(1, 100);
        f.investors = pick(1, 6);
        StringBuilder text = new StringBuilder();
        text.append("fund ").append(f.equal ? "equal " : "series ").append(f.rate).append(' ').append(f.fee)
                .append(' ').append(f.gate).append(";investors ").append(f.investors).append(';');
        int subscriptions = random.nextInt(random.nextBoolean() ? 13 : 4);
        for (int i = 0; i < subscriptions; i++) {
            PlainFund.R r = request(random.nextInt(f.investors), false, amount(), 0);
            f.requests.add(r);
            text.append("subscribe ").append(r.investor).append(' ').append(r.quantity).append(';');
        }
        f.deal();
        trace += "\n" + text;
        check("parse", Tester.parse(fund, text.toString()), subscriptions);
        plain = f;
        past.clear();
        check("new fund", Tester.stateOf(fund), plain.state());
    }

    private static PlainFund.R request(int investor, boolean redemption, long quantity, int day) {
        PlainFund.R r = new PlainFund.R();
        r.investor = investor;
        r.redemption = redemption;
        r.quantity = PlainFund.n(quantity);
        r.day = day;
        return r;
    }

    private int amount() {
        switch (amounts) {
            case 0:
                return pick(1, 200);
            case 1:
                return pick(1000, 100000);
            case 2:
                return pick(100000, 9999999);
            case 3:
                return random.nextInt(3) == 0 ? 9999999 : pick(5, 1200);
            default:
                return 1 + (int) Math.pow(10, random.nextDouble() * 6.99);
        }
    }

    private int someUnits(int investor) {
        long has = investor >= 0 && investor < plain.investors ? plain.unitsOf(investor).longValue() : 0;
        switch (random.nextInt(5)) {
            case 0:
                return (int) Math.min(has, Integer.MAX_VALUE);
            case 1:
                return 1 + (int) (has / 2);
            case 2:
                return pick(-1, 3);
            default:
                return has > 0 ? 1 + (int) (Math.abs(random.nextLong()) % has) : pick(1, 100000000);
        }
    }

    private int investor() {
        return random.nextInt(25) == 0 ? pick(-1, 7) : random.nextInt(plain.investors);
    }

    private int someRate() {
        switch (random.nextInt(6)) {
            case 0:
                return pick(-9001, 10000);
            case 1:
                return 9999;
            case 2:
                return -pick(0, 9000);
            default:
                return pick(-2000, 3000);
        }
    }

    /** What a change answers, or the exception; the state is changed where it succeeds. */
    private String apply(PlainFund f, String op, int a, int b, int c) {
        switch (op) {
            case "subscribe":
                if (a < 0 || a >= f.investors) {
                    return INDEX;
                }
                if (b < 1 || b > 9999999) {
                    return ARGUMENT;
                }
                if (f.requests.size() == 12) {
                    return STATE;
                }
                f.requests.add(request(a, false, b, f.day));
                return "" + (f.requests.size() - 1);
            case "redeem":
                if (a < 0 || a >= f.investors) {
                    return INDEX;
                }
                if (b < 1 || b > 99999999) {
                    return ARGUMENT;
                }
                if (f.requests.size() == 12
                        || f.waitingUnits(a).add(PlainFund.n(b)).compareTo(f.unitsOf(a)) > 0) {
                    return STATE;
                }
                f.requests.add(request(a, true, b, f.day));
                return "" + (f.requests.size() - 1);
            case "withdraw":
                if (a < 0 || a >= f.requests.size()) {
                    return INDEX;
                }
                return "" + f.requests.remove(a).quantity;
            case "deal":
                return "" + f.deal();
            case "earn":
                if (a < -9000 || a > 9999) {
                    return ARGUMENT;
                }
                return f.mayEarn(a) ? "" + f.earn(a) : STATE;
            case "pass":
                return a < 1 || a > 400 ? ARGUMENT : "" + f.passDays(a);
            case "crystallize":
                return "" + f.crystallize();
            case "merge":
                return "" + f.merge();
            case "gate":
                if (a < 1 || a > 100) {
                    return ARGUMENT;
                }
                int old = f.gate;
                f.gate = a;
                return "" + old;
            default:
                if (a < 0 || a >= f.investors || b < 0 || b >= f.investors) {
                    return INDEX;
                }
                if (a == b || c < 1 || c > 99999999) {
                    return ARGUMENT;
                }
                if (f.unitsOf(a).compareTo(f.waitingUnits(a).add(PlainFund.n(c))) < 0
                        || f.lots.size() == 40 && f.needsNewLot(a, PlainFund.n(c))) {
                    return STATE;
                }
                return "" + f.transfer(a, b, PlainFund.n(c));
        }
    }

    private Object really(String op, int a, int b, int c) {
        switch (op) {
            case "subscribe":
                return Tester.answer(() -> fund.subscribe(a, b));
            case "redeem":
                return Tester.answer(() -> fund.redeem(a, b));
            case "withdraw":
                return Tester.answer(() -> fund.withdraw(a));
            case "deal":
                return Tester.answer(() -> fund.deal());
            case "earn":
                return Tester.answer(() -> fund.earn(a));
            case "pass":
                return Tester.answer(() -> fund.passDays(a));
            case "crystallize":
                return Tester.answer(() -> fund.crystallize());
            case "merge":
                return Tester.answer(() -> fund.merge());
            case "gate":
                return Tester.answer(() -> fund.setGate(a));
            default:
                return Tester.answer(() -> fund.transfer(a, b, c));
        }
    }

    private void one(String op, int a, int b, int c) {
        trace += "\n" + op + " " + a + " " + b + " " + c;
        PlainFund before = plain.copy();
        String want = apply(plain, op, a, b, c);
        if (want.startsWith("throws")) {
            plain = before;
        } else {
            remember(before);
        }
        check(op, really(op, a, b, c), want);
    }

    private void remember(PlainFund before) {
        past.add(before);
        if (past.size() > 10) {
            past.remove(0);
        }
    }

    private void change() {
        int i = investor();
        switch (random.nextInt(18)) {
            case 0: case 1:
                subscribeMany(i);
                break;
            case 2: case 3:
                one("subscribe", i, random.nextInt(20) == 0 ? pick(-1, 1) : amount(), 0);
                break;
            case 4: case 5:
                one("redeem", i, someUnits(i), 0);
                break;
            case 6:
                one("withdraw", pick(-1, plain.requests.size()), 0, 0);
                break;
            case 7: case 8: case 9:
                one("deal", 0, 0, 0);
                break;
            case 10: case 11:
                one("earn", someRate(), 0, 0);
                break;
            case 12:
                one("pass", random.nextInt(4) == 0 ? pick(-1, 402) : pick(1, 40), 0, 0);
                break;
            case 13:
                one("crystallize", 0, 0, 0);
                one("merge", 0, 0, 0);
                break;
            case 14:
                one(random.nextBoolean() ? "crystallize" : "merge", 0, 0, 0);
                break;
            case 15:
                one("transfer", i, investor(), someUnits(i));
                break;
            case 16:
                if (random.nextInt(3) == 0) {
                    one("gate", pick(0, 101), 0, 0);
                } else {
                    undo();
                }
                break;
            default:
                script();
                break;
        }
    }

    /** In busy runs all lots come to be used. */
    private void subscribeMany(int investor) {
        int many = busy ? pick(1, 12) : 1;
        for (int k = 0; k < many; k++) {
            one("subscribe", investor, random.nextInt(40) == 0 ? pick(-1, 1) : amount(), 0);
        }
        if (many > 1) {
            one("deal", 0, 0, 0);
        }
    }

    private void undo() {
        trace += "\nundo";
        check("undoDepth", fund.undoDepth(), past.size());
        Object got = Tester.answer(() -> fund.undo());
        if (past.isEmpty()) {
            check("undo", got, STATE);
        } else {
            plain = past.remove(past.size() - 1);
            check("undo", got, past.size());
        }
    }

    private void script() {
        StringBuilder text = new StringBuilder();
        PlainFund before = plain;
        PlainFund f = plain.copy();
        int want = 0;
        for (int left = random.nextInt(14); left > 0 && want >= 0; left--) {
            String blank = random.nextInt(6) == 0 ? " \n" : "";
            int start = text.length() + blank.length();
            String statement = operation(f);
            if (start + statement.length() > 400) {
                break;
            }
            text.append(blank).append(statement);
            want = applyText(f, statement).startsWith("throws") ? -1 - start : want + 1;
        }
        trace += "\nscript " + text;
        check("runScript", Tester.script(fund, text.toString()), want);
        if (want >= 0) {
            remember(before);
            plain = f;
        }
    }

    private String operation(PlainFund f) {
        int i = random.nextInt(f.investors);
        int n = Math.abs(someRate());
        switch (random.nextInt(8)) {
            case 0:
                return "subscribe " + i + " " + amount() + ";";
            case 1:
                return "redeem" + i + " " + Math.min(9999999, Math.max(1, someUnits(i))) + " ;";
            case 2: case 3:
                return "deal;";
            case 4:
                return "gain " + n / 3 + ";";
            case 5:
                return "lose" + n + ";";
            case 6:
                return "pass  " + n % 50 + ";";
            default:
                return random.nextBoolean() ? "crystallize;" : "merge ;";
        }
    }

    private String applyText(PlainFund f, String statement) {
        String[] t = statement.replaceAll("([a-z])([0-9])", "$1 $2").replace(";", "").trim().split("\\s+");
        int a = t.length > 1 ? Integer.parseInt(t[1]) : 0;
        int b = t.length > 2 ? Integer.parseInt(t[2]) : 0;
        boolean earns = t[0].equals("gain") || t[0].equals("lose");
        return apply(f, earns ? "earn" : t[0], t[0].equals("lose") ? -a : a, b, 0);
    }

    // ---- look-aheads and questions

    private void lookAhead() {
        check("netAssets", fund.netAssets(), plain.netAssets());
        check("requestedValue", fund.requestedValue(), plain.requestedValue());
        check("gateLimit", fund.gateLimit(), plain.limit());
        check("wouldCrystallize", fund.wouldCrystallize(), plain.copy().crystallize());
        PlainFund settled = plain.copy();
        settled.crystallize();
        check("wouldMerge", fund.wouldMerge(), settled.merge());
        check("report", Tester.report(fund), plain.report());
        int rate = pick(-9000, 9999);
        check("feesIf " + rate, fund.feesIf(rate), plain.feesIf(rate));
        for (int i = 0; i < plain.requests.size(); i++) {
            check("wouldRedeem " + i, fund.wouldRedeem(i), plain.wouldRedeem(i));
            check("bestGate " + i, fund.bestGate(i), plain.bestGate(i));
            if (random.nextInt(6) == 0) {
                check("dealsUntilDone " + i, fund.dealsUntilDone(i), plain.dealsUntilDone(i));
            }
        }
        values();
        rates();
        BigInteger net = plain.netAssets();
        BigInteger goal = net.multiply(PlainFund.n(pick(0, 101))).divide(PlainFund.n(100));
        check("daysUntil " + goal, fund.daysUntil(goal.longValue()), plain.daysUntil(goal));
    }

    private void values() {
        BigInteger sum = BigInteger.ZERO;
        List<Integer> order = new ArrayList<>();
        for (int i = 0; i < plain.investors; i++) {
            check("unitsOf " + i, fund.unitsOf(i), plain.unitsOf(i));
            check("valueOf " + i, fund.valueOf(i), plain.valueOf(i));
            for (PlainFund.S s : plain.series) {
                check("holding", fund.holding(i, s.number), plain.holding(i, s.number));
            }
            sum = sum.add(plain.valueOf(i));
            order.add(i);
        }
        order.sort((a, b) -> plain.valueOf(b).compareTo(plain.valueOf(a)));
        for (int i = 0; i < plain.investors; i++) {
            check("richest " + i, fund.richest(i), order.get(i));
            int investor = i;
            Object want = sum.signum() == 0 ? "throws.ArithmeticException"
                    : plain.valueOf(i).doubleValue() / sum.doubleValue();
            check("share " + i, Tester.answer(() -> fund.share(investor)), want);
        }
    }

    private void rates() {
        for (PlainFund.S s : plain.series) {
            Object got = Tester.answer(() -> fund.breakEven(s.number));
            if (got instanceof Integer) {
                int r = (Integer) got;
                check("breakEven reaches", plain.grossAfter(s.number, r).compareTo(s.mark) >= 0, true);
                check("breakEven is least",
                        r == -9000 || plain.grossAfter(s.number, r - 1).compareTo(s.mark) < 0, true);
            } else {
                check("breakEven", got, "throws.NoSuchElementException");
                check("breakEven misses", plain.grossAfter(s.number, 9999).compareTo(s.mark) < 0, true);
            }
        }
        int investor = random.nextInt(plain.investors);
        long value = plain.valueOf(investor).longValue() * pick(1, 250) / 100 + pick(-1, 2);
        Object got = Tester.answer(() -> fund.rateFor(investor, value));
        int found = got instanceof Integer ? (Integer) got : 10000;
        trace += "\nrateFor " + investor + " " + value;
        if (found < 10000) {
            check("rateFor reaches", reaches(investor, found, value), true);
        } else {
            check("rateFor", got, "throws.NoSuchElementException");
        }
        for (int r = found - 1; r >= -9000 && r >= found - bruteRates; r--) {
            check("rateFor is least, " + r, reaches(investor, r, value), false);
        }
    }

    private boolean reaches(int investor, int rate, long value) {
        return plain.valueAfter(investor, rate).compareTo(PlainFund.n(value)) >= 0;
    }
}
