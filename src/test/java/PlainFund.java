import java.math.BigInteger;
import java.util.ArrayList;
import java.util.List;
import java.util.TreeSet;

/**
 * The document's sections 1 to 6 written down a second time, with numbers of any length and whole copies,
 * to be held against SeriesFund by RandomRunsTest. It checks no arguments.
 */
final class PlainFund {
    static final BigInteger SCALE = n(100000);
    static final BigInteger FIRST = n(1000000);

    static final class S {
        int number;
        int start;
        BigInteger assets = BigInteger.ZERO;
        BigInteger units = BigInteger.ZERO;
        BigInteger mark = FIRST;
    }

    static final class L {
        int investor;
        int series;
        int day;
        BigInteger units;
        BigInteger entry;
        BigInteger credit;
    }

    static final class R {
        int investor;
        int day;
        boolean redemption;
        BigInteger quantity;
        BigInteger lastRedeemed = BigInteger.ZERO;
        boolean done;
    }

    int investors = 1;
    boolean equal;
    int rate;
    int fee;
    int gate = 100;
    int day;
    int opened;
    BigInteger manager = BigInteger.ZERO;
    BigInteger rounding = BigInteger.ZERO;
    BigInteger paidIn = BigInteger.ZERO;
    BigInteger paidOut = BigInteger.ZERO;
    BigInteger gains = BigInteger.ZERO;
    BigInteger managementFees = BigInteger.ZERO;
    List<S> series = new ArrayList<>();
    List<L> lots = new ArrayList<>();
    List<R> requests = new ArrayList<>();

    static BigInteger n(long value) {
        return BigInteger.valueOf(value);
    }

    PlainFund copy() {
        PlainFund f = new PlainFund();
        f.investors = investors;
        f.equal = equal;
        f.rate = rate;
        f.fee = fee;
        f.gate = gate;
        f.day = day;
        f.opened = opened;
        f.manager = manager;
        f.rounding = rounding;
        f.paidIn = paidIn;
        f.paidOut = paidOut;
        f.gains = gains;
        f.managementFees = managementFees;
        for (S s : series) {
            S t = new S();
            t.number = s.number;
            t.start = s.start;
            t.assets = s.assets;
            t.units = s.units;
            t.mark = s.mark;
            f.series.add(t);
        }
        for (L l : lots) {
            L t = lotLike(l);
            t.units = l.units;
            t.credit = l.credit;
            f.lots.add(t);
        }
        for (R r : requests) {
            R t = new R();
            t.investor = r.investor;
            t.day = r.day;
            t.redemption = r.redemption;
            t.quantity = r.quantity;
            f.requests.add(t);
        }
        return f;
    }

    private static L lotLike(L l) {
        L t = new L();
        t.investor = l.investor;
        t.series = l.series;
        t.day = l.day;
        t.entry = l.entry;
        return t;
    }

    // ---- section 2

    static BigInteger gross(S s) {
        return s.assets.multiply(SCALE).divide(s.units);
    }

    BigInteger accrued(S s) {
        BigInteger excess = s.assets.subtract(s.mark.multiply(s.units).divide(SCALE));
        return excess.signum() > 0 ? excess.multiply(n(fee)).divide(n(100)) : BigInteger.ZERO;
    }

    BigInteger net(S s) {
        return s.assets.subtract(accrued(s));
    }

    BigInteger netPrice(S s) {
        return net(s).multiply(SCALE).divide(s.units);
    }

    BigInteger netAssets() {
        BigInteger sum = BigInteger.ZERO;
        for (S s : series) {
            sum = sum.add(net(s));
        }
        return sum;
    }

    S find(int number) {
        for (S s : series) {
            if (s.number == number) {
                return s;
            }
        }
        return null;
    }

    BigInteger unitsOf(int investor) {
        BigInteger sum = BigInteger.ZERO;
        for (L l : lots) {
            if (l.investor == investor) {
                sum = sum.add(l.units);
            }
        }
        return sum;
    }

    BigInteger holding(int investor, int number) {
        BigInteger sum = BigInteger.ZERO;
        for (L l : lots) {
            if (l.investor == investor && l.series == number) {
                sum = sum.add(l.units);
            }
        }
        return sum;
    }

    BigInteger waitingUnits(int investor) {
        BigInteger sum = BigInteger.ZERO;
        for (R r : requests) {
            if (r.redemption && r.investor == investor) {
                sum = sum.add(r.quantity);
            }
        }
        return sum;
    }

    private void sweep() {
        lots.removeIf(l -> l.units.signum() == 0);
        for (S s : series) {
            if (s.units.signum() == 0) {
                rounding = rounding.add(s.assets);
            }
        }
        series.removeIf(s -> s.units.signum() == 0);
    }

    // ---- section 3: answers the units that were redeemed, the sum of base, and what was paid

    BigInteger[] redeemNow(int investor, BigInteger wanted) {
        BigInteger left = wanted;
        BigInteger sumOfBase = BigInteger.ZERO;
        BigInteger sumPaid = BigInteger.ZERO;
        for (L lot : lots) {
            if (lot.investor != investor || left.signum() == 0) {
                continue;
            }
            S s = find(lot.series);
            BigInteger x = left.min(lot.units);
            BigInteger base = net(s).multiply(x).divide(s.units);
            BigInteger part = accrued(s).multiply(x).divide(s.units);
            BigInteger credit = lot.credit.multiply(x).divide(lot.units);
            BigInteger back = part.min(credit);
            BigInteger d = gross(s).min(s.mark).subtract(lot.entry);
            BigInteger due = BigInteger.ZERO;
            if (equal && d.signum() > 0) {
                due = x.multiply(d).multiply(n(fee)).divide(n(100)).divide(SCALE);
            }
            BigInteger pay = base.add(back).subtract(due);
            sumPaid = sumPaid.add(pay);
            paidOut = paidOut.add(pay);
            manager = manager.add(part.subtract(back).add(due));
            s.assets = s.assets.subtract(base.add(part));
            s.units = s.units.subtract(x);
            lot.units = lot.units.subtract(x);
            lot.credit = lot.credit.subtract(credit);
            left = left.subtract(x);
            sumOfBase = sumOfBase.add(base);
        }
        sweep();
        return new BigInteger[] {wanted.subtract(left), sumOfBase, sumPaid};
    }

    BigInteger valueOf(int investor) {
        return copy().redeemNow(investor, unitsOf(investor))[2];
    }

    boolean subscribeNow(R r, S[] opens) {
        S s = equal ? (series.isEmpty() ? null : series.get(0)) : opens[0];
        BigInteger price = !equal || s == null ? FIRST : gross(s);
        if (price.signum() == 0 || lots.size() == 40 || s == null && series.size() == 6) {
            return false;
        }
        BigInteger units = r.quantity.multiply(SCALE).divide(price);
        if (units.signum() == 0 || units.compareTo(n(10000000)) > 0) {
            return false;
        }
        if (s == null) {
            s = new S();
            s.number = opened++;
            s.start = day;
            series.add(s);
            opens[0] = s;
        }
        L lot = new L();
        lot.investor = r.investor;
        lot.series = s.number;
        lot.day = day;
        lot.units = units;
        lot.entry = price;
        lot.credit = BigInteger.ZERO;
        if (equal && price.compareTo(s.mark) > 0) {
            lot.credit = units.multiply(price.subtract(s.mark)).multiply(n(fee)).divide(n(100)).divide(SCALE);
        }
        lots.add(lot);
        s.assets = s.assets.add(r.quantity);
        s.units = s.units.add(units);
        paidIn = paidIn.add(r.quantity);
        return true;
    }

    // ---- section 4

    BigInteger requestedValue() {
        BigInteger sum = BigInteger.ZERO;
        for (R r : requests) {
            if (r.redemption) {
                sum = sum.add(copy().redeemNow(r.investor, r.quantity)[1]);
            }
        }
        return sum;
    }

    BigInteger limit() {
        return netAssets().multiply(n(gate)).divide(n(100));
    }

    /** Marks what is done, but leaves the list as it is. */
    void carryOut() {
        BigInteger requested = requestedValue();
        BigInteger limit = limit();
        boolean all = requested.compareTo(limit) <= 0;
        for (R r : requests) {
            if (r.redemption) {
                BigInteger u = all ? r.quantity : r.quantity.multiply(limit).divide(requested);
                r.lastRedeemed = redeemNow(r.investor, u)[0];
                r.quantity = r.quantity.subtract(u);
                r.done = all;
            }
        }
        for (R r : requests) {
            if (r.redemption && unitsOf(r.investor).signum() == 0) {
                r.done = true;
            }
        }
        S[] opens = new S[1];
        for (R r : requests) {
            if (!r.redemption) {
                r.done = subscribeNow(r, opens);
            }
        }
    }

    int deal() {
        carryOut();
        int before = requests.size();
        requests.removeIf(r -> r.done);
        return before - requests.size();
    }

    int dealsUntilDone(int request) {
        PlainFund f = copy();
        R watched = f.requests.get(request);
        for (int deals = 1; deals <= 100; deals++) {
            f.deal();
            if (!f.requests.contains(watched)) {
                return deals;
            }
        }
        return -1;
    }

    BigInteger wouldRedeem(int request) {
        PlainFund f = copy();
        f.carryOut();
        return f.requests.get(request).lastRedeemed;
    }

    int bestGate(int request) {
        for (int g = 1; g <= 100 && requests.get(request).redemption; g++) {
            PlainFund f = copy();
            f.gate = g;
            f.carryOut();
            if (f.requests.get(request).done) {
                return g;
            }
        }
        return -1;
    }

    // ---- section 5

    boolean mayEarn(int r) {
        PlainFund f = copy();
        f.earn(r);
        for (S s : f.series) {
            if (r > 0 && (s.assets.compareTo(n(1000000000)) > 0 || gross(s).compareTo(n(100000000)) > 0)) {
                return false;
            }
        }
        return true;
    }

    BigInteger earn(int r) {
        BigInteger sum = BigInteger.ZERO;
        for (S s : series) {
            BigInteger gain = s.assets.multiply(n(r)).divide(n(10000));
            s.assets = s.assets.add(gain);
            sum = sum.add(gain);
        }
        gains = gains.add(sum);
        return sum;
    }

    BigInteger passDays(int days) {
        BigInteger sum = BigInteger.ZERO;
        for (int i = 0; i < days; i++) {
            for (S s : series) {
                BigInteger cost = s.assets.multiply(n(rate)).divide(n(3650000));
                s.assets = s.assets.subtract(cost);
                sum = sum.add(cost);
            }
            day++;
        }
        manager = manager.add(sum);
        managementFees = managementFees.add(sum);
        return sum;
    }

    BigInteger crystallize() {
        BigInteger before = manager;
        for (S s : new ArrayList<>(series)) {
            BigInteger g = gross(s);
            BigInteger f = accrued(s);
            s.assets = s.assets.subtract(f);
            manager = manager.add(f);
            BigInteger p = gross(s);
            for (L lot : lots) {
                if (lot.series != s.number) {
                    continue;
                }
                if (equal && lot.entry.compareTo(s.mark) > 0 && g.compareTo(s.mark) > 0) {
                    BigInteger over = lot.entry.subtract(s.mark);
                    BigInteger back = lot.credit.multiply(over.min(g.subtract(s.mark))).divide(over);
                    BigInteger more = back.multiply(SCALE).divide(p);
                    s.assets = s.assets.add(back);
                    manager = manager.subtract(back);
                    lot.units = lot.units.add(more);
                    s.units = s.units.add(more);
                }
                if (equal && lot.entry.compareTo(s.mark) < 0 && lot.entry.compareTo(g) < 0) {
                    BigInteger m = g.min(s.mark);
                    BigInteger due = lot.units.multiply(m.subtract(lot.entry)).multiply(n(fee))
                            .divide(n(100)).divide(SCALE);
                    BigInteger fewer = lot.units.min(due.multiply(SCALE).divide(p));
                    s.assets = s.assets.subtract(due);
                    manager = manager.add(due);
                    lot.units = lot.units.subtract(fewer);
                    s.units = s.units.subtract(fewer);
                }
                lot.entry = p;
                lot.credit = BigInteger.ZERO;
            }
            if (f.signum() > 0) {
                s.mark = p;
            }
            sweep();
        }
        return manager.subtract(before);
    }

    BigInteger feesIf(int r) {
        PlainFund f = copy();
        f.earn(r);
        BigInteger sum = BigInteger.ZERO;
        for (S s : f.series) {
            sum = sum.add(f.accrued(s));
        }
        return sum;
    }

    BigInteger grossAfter(int number, int r) {
        PlainFund f = copy();
        f.earn(r);
        return gross(f.find(number));
    }

    BigInteger valueAfter(int investor, int r) {
        PlainFund f = copy();
        f.earn(r);
        return f.valueOf(investor);
    }

    int daysUntil(BigInteger assets) {
        PlainFund f = copy();
        for (int d = 0; d <= 400; d++) {
            if (f.netAssets().compareTo(assets) <= 0) {
                return d;
            }
            f.passDays(1);
        }
        return -1;
    }

    // ---- section 6

    int merge() {
        if (equal || series.isEmpty()) {
            return 0;
        }
        S lead = series.get(0);
        BigInteger leadPrice = gross(lead);
        int merged = 0;
        for (S s : new ArrayList<>(series)) {
            if (s == lead || !leadPrice.equals(lead.mark) || !gross(s).equals(s.mark)) {
                continue;
            }
            BigInteger price = gross(s);
            for (L lot : lots) {
                if (lot.series == s.number) {
                    lot.units = lot.units.multiply(price).divide(leadPrice);
                    lot.series = lead.number;
                    lot.entry = leadPrice;
                    lead.units = lead.units.add(lot.units);
                }
            }
            lead.assets = lead.assets.add(s.assets);
            series.remove(s);
            merged++;
        }
        lots.removeIf(l -> l.units.signum() == 0);
        return merged;
    }

    // ---- promises 15 and 41

    boolean needsNewLot(int from, BigInteger units) {
        BigInteger left = units;
        for (L lot : lots) {
            if (lot.investor == from && left.signum() > 0) {
                left = left.subtract(lot.units);
            }
        }
        return left.signum() < 0;
    }

    BigInteger transfer(int from, int to, BigInteger units) {
        BigInteger left = units;
        for (L lot : new ArrayList<>(lots)) {
            if (lot.investor != from || left.signum() == 0) {
                continue;
            }
            if (lot.units.compareTo(left) <= 0) {
                left = left.subtract(lot.units);
                lot.investor = to;
            } else {
                L fresh = lotLike(lot);
                fresh.investor = to;
                fresh.units = left;
                fresh.credit = lot.credit.multiply(left).divide(lot.units);
                lot.credit = lot.credit.subtract(fresh.credit);
                lot.units = lot.units.subtract(left);
                left = BigInteger.ZERO;
                lots.add(fresh);
            }
        }
        return unitsOf(from);
    }

    String report() {
        StringBuilder out = new StringBuilder();
        out.append("day ").append(day).append(" assets ").append(netAssets()).append('\n');
        for (S s : series) {
            out.append("series ").append(s.number).append(' ').append(netPrice(s)).append(' ').append(s.mark);
            TreeSet<Integer> holders = new TreeSet<>();
            for (L lot : lots) {
                if (lot.series == s.number) {
                    holders.add(lot.investor);
                }
            }
            for (int h : holders) {
                out.append(' ').append(h).append(':').append(holding(h, s.number));
            }
            out.append('\n');
        }
        return out.toString();
    }

    /** Everything that can be asked about the state. */
    String state() {
        StringBuilder out = new StringBuilder();
        out.append(investors).append(' ').append(equal ? 1 : 0).append(' ').append(rate).append(' ').append(fee)
                .append(' ').append(gate).append(' ').append(day).append(' ').append(series.size()).append(' ')
                .append(lots.size()).append(' ').append(requests.size()).append(' ').append(opened).append('\n');
        out.append(manager).append(' ').append(rounding).append(' ').append(paidIn).append(' ').append(paidOut)
                .append(' ').append(gains).append(' ').append(managementFees).append('\n');
        for (S s : series) {
            long count = lots.stream().filter(l -> l.series == s.number).count();
            out.append("s ").append(s.number).append(' ').append(s.assets).append(' ').append(s.units).append(' ')
                    .append(s.mark).append(' ').append(accrued(s)).append(' ').append(gross(s)).append(' ')
                    .append(netPrice(s)).append(' ').append(s.start).append(' ').append(count).append('\n');
        }
        for (L l : lots) {
            out.append("l ").append(l.investor).append(' ').append(l.series).append(' ').append(l.units).append(' ')
                    .append(l.entry).append(' ').append(l.credit).append(' ').append(l.day).append('\n');
        }
        for (R r : requests) {
            out.append("r ").append(r.investor).append(' ').append(r.redemption ? 1 : 0).append(' ')
                    .append(r.quantity).append(' ').append(r.day).append('\n');
        }
        return out.toString();
    }
}
