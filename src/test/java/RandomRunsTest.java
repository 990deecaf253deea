import java.util.Random;

/** Random runs on SeriesFund and on PlainFund, which have to answer the same. The seeds are fixed. */
final class RandomRunsTest {
    private final Random random;
    private final SideBySide both;
    private int amounts;
    private boolean busy;

    RandomRunsTest(long seed) {
        random = new Random(seed);
        both = new SideBySide(new Tester("RandomRunsTest"), random);
    }

    public static void main(String[] args) {
        int runs = args.length > 0 ? Integer.parseInt(args[0]) : 250;
        long seed = args.length > 1 ? Long.parseLong(args[1]) : 20261118L;
        RandomRunsTest test = new RandomRunsTest(seed);
        test.both.bruteRates = args.length > 2 ? Integer.parseInt(args[2]) : 60;
        for (int run = 0; run < runs && test.both.tester.wrong() == 0; run++) {
            test.run(run);
        }
        if (test.both.tester.wrong() > 0) {
            System.out.println(test.both.trace);
        }
        test.both.tester.end();
    }

    private void run(int number) {
        both.begin("run " + number);
        amounts = random.nextInt(6);
        busy = random.nextInt(4) == 0;
        newFund();
        int calls = 20 + random.nextInt(100);
        for (int i = 0; i < calls && both.tester.wrong() == 0; i++) {
            change();
            both.same();
            if (random.nextInt(4) == 0) {
                both.lookAhead();
                both.same();
            }
        }
    }

    private int pick(int least, int most) {
        return both.pick(least, most);
    }

    private void newFund() {
        PlainFund f = new PlainFund();
        f.equal = random.nextBoolean() || amounts == 5;
        f.rate = random.nextInt(4) == 0 ? 9999 : random.nextInt(3) == 0 ? 0 : random.nextInt(1000);
        f.fee = random.nextInt(4) == 0 ? 50 : random.nextInt(51);
        f.gate = random.nextInt(3) == 0 ? 100 : random.nextInt(3) == 0 ? pick(1, 5) : pick(1, 100);
        f.investors = pick(1, 6);
        StringBuilder text = new StringBuilder();
        text.append("fund ").append(f.equal ? "equal " : "series ").append(f.rate).append(' ').append(f.fee)
                .append(' ').append(f.gate).append(";investors ").append(f.investors).append(';');
        int subscriptions = random.nextInt(random.nextBoolean() ? 13 : 4);
        for (int i = 0; i < subscriptions; i++) {
            PlainFund.R r = SideBySide.request(random.nextInt(f.investors), false, amount(f), 0);
            f.requests.add(r);
            text.append("subscribe ").append(r.investor).append(' ').append(r.quantity).append(';');
        }
        f.deal();
        both.trace += "\n" + text;
        both.check("parse", Tester.parse(both.fund, text.toString()), subscriptions);
        both.plain = f;
        both.past.clear();
        both.same();
    }

    private int amount(PlainFund f) {
        switch (amounts) {
            case 0:
                return pick(1, 200);
            case 1:
                return pick(1000, 100000);
            case 2:
                return pick(100000, 9999999);
            case 3:
                return random.nextInt(3) == 0 ? 9999999 : pick(5, 1200);
            case 4:
                return 1 + (int) Math.pow(10, random.nextDouble() * 6.99);
            default:
                return random.nextInt(3) == 0 ? pick(100000, 9999999) : raisingAmount(f);
        }
    }

    /** Nearly the price of a unit more than it buys, so that the price of all units rises. */
    private int raisingAmount(PlainFund f) {
        if (f.series.isEmpty()) {
            return 19;
        }
        long price = PlainFund.gross(f.series.get(0)).longValue();
        return (int) Math.max(1, Math.min(9999999, (pick(2, 3) * price - 1) / 100000));
    }

    private int someUnits(int investor) {
        long has = investor >= 0 && investor < both.plain.investors ? both.plain.unitsOf(investor).longValue() : 0;
        switch (random.nextInt(5)) {
            case 0:
                return (int) Math.min(has, Integer.MAX_VALUE);
            case 1:
                return amounts == 5 && has > 3 ? (int) has - pick(1, 3) : 1 + (int) (has / 2);
            case 2:
                return pick(-1, 3);
            default:
                return has > 0 ? 1 + (int) (Math.abs(random.nextLong()) % has) : pick(1, 100000000);
        }
    }

    private int investor() {
        return random.nextInt(25) == 0 ? pick(-1, 7) : random.nextInt(both.plain.investors);
    }

    private int someRate() {
        switch (random.nextInt(6)) {
            case 0:
                return pick(-9001, 10000);
            case 1:
                return 9999;
            case 2:
                return -pick(0, 9000);
            default:
                return pick(-2000, 3000);
        }
    }

    private void change() {
        int i = investor();
        switch (random.nextInt(18)) {
            case 0: case 1:
                subscribeMany(i);
                break;
            case 2: case 3:
                both.one("subscribe", i, random.nextInt(20) == 0 ? pick(-1, 1) : amount(both.plain), 0);
                break;
            case 4: case 5:
                both.one("redeem", i, someUnits(i), 0);
                break;
            case 6:
                both.one("withdraw", pick(-1, both.plain.requests.size()), 0, 0);
                break;
            case 7: case 8: case 9:
                both.one("deal", 0, 0, 0);
                break;
            case 10: case 11:
                both.one("earn", someRate(), 0, 0);
                break;
            case 12:
                both.one("pass", random.nextInt(4) == 0 ? pick(-1, 402) : pick(1, 40), 0, 0);
                break;
            case 13:
                both.one("crystallize", 0, 0, 0);
                both.one("merge", 0, 0, 0);
                break;
            case 14:
                both.one(random.nextBoolean() ? "crystallize" : "merge", 0, 0, 0);
                break;
            case 15:
                both.one("transfer", i, investor(), someUnits(i));
                break;
            case 16:
                if (random.nextInt(3) == 0) {
                    both.one("gate", pick(0, 101), 0, 0);
                } else {
                    both.undo();
                }
                break;
            default:
                script();
                break;
        }
    }

    /** In busy runs all lots come to be used. */
    private void subscribeMany(int investor) {
        int many = busy ? pick(1, 12) : 1;
        for (int k = 0; k < many; k++) {
            both.one("subscribe", investor, random.nextInt(40) == 0 ? pick(-1, 1) : amount(both.plain), 0);
        }
        if (many > 1) {
            both.one("deal", 0, 0, 0);
        }
    }

    private void script() {
        StringBuilder text = new StringBuilder();
        PlainFund before = both.plain;
        PlainFund f = both.plain.copy();
        int want = 0;
        for (int left = random.nextInt(14); left > 0 && want >= 0; left--) {
            String blank = random.nextInt(6) == 0 ? " \n" : "";
            int start = text.length() + blank.length();
            String statement = operation(f);
            if (start + statement.length() > 400) {
                break;
            }
            text.append(blank).append(statement);
            want = applyText(f, statement).startsWith("throws") ? -1 - start : want + 1;
        }
        both.trace += "\nscript " + text;
        both.check("runScript", Tester.script(both.fund, text.toString()), want);
        if (want >= 0) {
            both.remember(before);
            both.plain = f;
        }
    }

    private String operation(PlainFund f) {
        int i = random.nextInt(f.investors);
        int n = Math.abs(someRate());
        switch (random.nextInt(8)) {
            case 0:
                return "subscribe " + i + " " + amount(f) + ";";
            case 1:
                return "redeem" + i + " " + Math.min(9999999, Math.max(1, someUnits(i))) + " ;";
            case 2: case 3:
                return "deal;";
            case 4:
                return "gain " + n / 3 + ";";
            case 5:
                return "lose" + n + ";";
            case 6:
                return "pass  " + n % 50 + ";";
            default:
                return random.nextBoolean() ? "crystallize;" : "merge ;";
        }
    }

    private String applyText(PlainFund f, String statement) {
        String[] t = statement.replaceAll("([a-z])([0-9])", "$1 $2").replace(";", "").trim().split("\\s+");
        int a = t.length > 1 ? Integer.parseInt(t[1]) : 0;
        int b = t.length > 2 ? Integer.parseInt(t[2]) : 0;
        boolean earns = t[0].equals("gain") || t[0].equals("lose");
        return SideBySide.apply(f, earns ? "earn" : t[0], t[0].equals("lose") ? -a : a, b, 0);
    }
}
