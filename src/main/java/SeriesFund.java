import java.util.NoSuchElementException;

/** The books of an investment fund with performance fees; README.md tells how to use it. */
public final class SeriesFund {
    public static final int NONE = -1;

    private static final int TEXT_LIMIT = 400;
    private static final int TEXT_STEP = 20;
    private static final int REPORT_LIMIT = 1300;
    private static final int DIGITS_LIMIT = 20;
    private static final int SEARCH_STEPS = 32;

    private static final int SERIES_LIMIT = 6;
    private static final int LOT_LIMIT = 40;
    private static final int REQUEST_LIMIT = 12;
    private static final int UNDO_LIMIT = 10;
    private static final int INVESTOR_LIMIT = 6;
    private static final int MANAGEMENT_RATE_LIMIT = 9999;
    private static final int PERFORMANCE_FEE_LIMIT = 50;
    private static final int GATE_LIMIT = 100;
    private static final int AMOUNT_LIMIT = 9999999;
    private static final int UNITS_LIMIT = 99999999;
    private static final long ALL_UNITS = 9223372036854775807L;
    private static final int LOT_UNITS_LIMIT = 10000000;
    private static final int LEAST_RATE = -9000;
    private static final int GREATEST_RATE = 9999;
    private static final int DAYS_LIMIT = 400;
    private static final int DEALS_LIMIT = 100;
    private static final long ASSETS_LIMIT = 1000000000L;
    private static final long PRICE_LIMIT = 100000000L;

    private static final long PRICE_SCALE = 100000L;
    private static final long FIRST_PRICE = 1000000L;
    private static final long RATE_SCALE = 10000L;
    private static final long YEAR_SCALE = 3650000L;

    private static final int SERIES_METHOD = 0;
    private static final int EQUALIZATION = 1;

    private static final int MANAGER = 0;
    private static final int ROUNDING = 1;
    private static final int PAID_IN = 2;
    private static final int PAID_OUT = 3;
    private static final int GAINS = 4;
    private static final int MANAGEMENT_FEES = 5;
    private static final int ACCOUNTS = 6;

    private static final int NO_FAULT = 0;
    private static final int NOT_THERE = 1;
    private static final int OUT_OF_RANGE = 2;
    private static final int NOT_NOW = 3;

    private static final int MISPLACED = 1;
    private static final int BAD_NUMBER = 2;
    private static final int TOO_MANY = 3;

    private final Tokens tokens = new Tokens();
    private int parseCode = 0;
    private int parsePosition = NONE;

    private final Book book = new Book();
    private final Book thought = new Book();
    private final Desk desk = new Desk();

    private final Book[] past = new Book[UNDO_LIMIT];
    private int newest = 0;
    private int remembered = 0;

    private final Report report = new Report();

    public SeriesFund() {
    }

    // ---- fund text

    public int appendText(int a, int b, int c, int d, int e) throws IllegalStateException {
        if (tokens.held + TEXT_STEP > TEXT_LIMIT) {
            throw new IllegalStateException("the text buffer is full");
        }
        tokens.putFour(a);
        tokens.putFour(b);
        tokens.putFour(c);
        tokens.putFour(d);
        tokens.putFour(e);
        return tokens.held;
    }

    public int truncateText(int length) throws IllegalArgumentException {
        if (length < 0 || length > tokens.held) {
            throw new IllegalArgumentException("no such length");
        }
        tokens.held = length;
        return length;
    }

    public int parseFund() {
        tokens.takeBuffer();
        FundText fundText = new FundText(tokens, thought);
        if (!fundText.readAll()) {
            parseCode = fundText.code;
            parsePosition = tokens.start;
            return NONE;
        }
        parseCode = 0;
        parsePosition = NONE;
        int subscriptions = thought.requestCount;
        desk.holdDealing(thought);
        book.copyFrom(thought);
        remembered = 0;
        return subscriptions;
    }

    public int errorCode() {
        return parseCode;
    }

    public int errorPosition() {
        return parsePosition;
    }

    // ---- changes

    public int subscribe(int investor, int amount)
            throws IndexOutOfBoundsException, IllegalArgumentException, IllegalStateException {
        refuse(book.subscriptionFault(investor, amount));
        remember();
        return book.addRequest(investor, false, amount);
    }

    public int redeem(int investor, int units)
            throws IndexOutOfBoundsException, IllegalArgumentException, IllegalStateException {
        refuse(book.redemptionFault(investor, units));
        remember();
        return book.addRequest(investor, true, units);
    }

    public long withdraw(int request) throws IndexOutOfBoundsException {
        checkRequest(request);
        remember();
        long quantity = book.requests[request].quantity;
        book.removeRequest(request);
        return quantity;
    }

    public int deal() {
        remember();
        return desk.holdDealing(book);
    }

    public long earn(int rate) throws IllegalArgumentException, IllegalStateException {
        refuse(Fees.earningFault(book, rate));
        remember();
        return Fees.earnRate(book, rate);
    }

    public long passDays(int days) throws IllegalArgumentException {
        refuse(Fees.passingFault(days));
        remember();
        return Fees.chargeDays(book, days);
    }

    public long crystallize() {
        remember();
        return Fees.settleAll(book);
    }

    public int merge() {
        remember();
        return Fees.mergeAll(book);
    }

    public long transfer(int from, int to, int units)
            throws IndexOutOfBoundsException, IllegalArgumentException, IllegalStateException {
        refuse(book.transferFault(from, to, units));
        remember();
        book.moveUnits(from, to, units);
        return book.unitsHeldBy(from);
    }

    public int setGate(int gate) throws IllegalArgumentException {
        if (gate < 1 || gate > GATE_LIMIT) {
            throw new IllegalArgumentException("no such gate");
        }
        remember();
        int previous = book.gate;
        book.gate = gate;
        return previous;
    }

    /** Runs on the book of thoughts, so that a wrong text leaves the fund as it was. */
    public int runScript() {
        tokens.takeBuffer();
        thought.copyFrom(book);
        Script script = new Script(tokens, thought, desk);
        int operations = 0;
        tokens.advance();
        while (tokens.kind != Tokens.END && operations < TEXT_LIMIT) {
            int start = tokens.start;
            if (!script.readOperation()) {
                return -1 - tokens.start;
            }
            if (!script.execute()) {
                return -1 - start;
            }
            operations++;
            tokens.advance();
        }
        remember();
        book.copyFrom(thought);
        return operations;
    }

    /** Keeps the present state for undo(); the rows of the oldest change are used again. */
    private void remember() {
        newest = newest + 1 < UNDO_LIMIT ? newest + 1 : 0;
        if (past[newest] == null) {
            past[newest] = new Book();
        }
        past[newest].copyFrom(book);
        if (remembered < UNDO_LIMIT) {
            remembered++;
        }
    }

    private static void refuse(int fault) {
        if (fault == NOT_THERE) {
            throw new IndexOutOfBoundsException("there is no such number");
        }
        if (fault == OUT_OF_RANGE) {
            throw new IllegalArgumentException("an argument is out of its range");
        }
        if (fault == NOT_NOW) {
            throw new IllegalStateException("this cannot be done now");
        }
    }

    private void checkInvestor(int investor) {
        refuse(book.hasInvestor(investor) ? NO_FAULT : NOT_THERE);
    }

    private void checkRequest(int request) {
        refuse(request >= 0 && request < book.requestCount ? NO_FAULT : NOT_THERE);
    }

    /** The place of an open series in the book. */
    private int placeOf(int series) {
        int place = book.placeOfSeries(series);
        refuse(place == NONE ? NOT_THERE : NO_FAULT);
        return place;
    }

    // ---- the fund

    public int count(int what) throws IllegalArgumentException {
        switch (what) {
            case 0:
                return book.investors;
            case 1:
                return book.method;
            case 2:
                return book.managementRate;
            case 3:
                return book.performanceFee;
            case 4:
                return book.gate;
            case 5:
                return book.day;
            case 6:
                return book.seriesCount;
            case 7:
                return book.lotCount;
            case 8:
                return book.requestCount;
            case 9:
                return book.opened;
            default:
                throw new IllegalArgumentException("no such count");
        }
    }

    public long netAssets() {
        return book.netOfAll();
    }

    public long account(int what) throws IllegalArgumentException {
        if (what < 0 || what >= ACCOUNTS) {
            throw new IllegalArgumentException("no such account");
        }
        return book.accounts[what];
    }

    public int openSeries(int index) throws IndexOutOfBoundsException {
        if (index < 0 || index >= book.seriesCount) {
            throw new IndexOutOfBoundsException("no such index");
        }
        return book.series[index].number;
    }

    public long seriesValue(int series, int what) throws IndexOutOfBoundsException, IllegalArgumentException {
        Series shown = book.series[placeOf(series)];
        switch (what) {
            case 0:
                return shown.assets;
            case 1:
                return shown.units;
            case 2:
                return shown.mark;
            case 3:
                return shown.accruedFee(book.performanceFee);
            case 4:
                return shown.grossPrice();
            case 5:
                return shown.netPrice(book.performanceFee);
            case 6:
                return shown.startDay;
            case 7:
                return book.lotsOfSeries(series);
            default:
                throw new IllegalArgumentException("no such value");
        }
    }

    public long lot(int lot, int what) throws IndexOutOfBoundsException, IllegalArgumentException {
        if (lot < 0 || lot >= book.lotCount) {
            throw new IndexOutOfBoundsException("no such lot");
        }
        Lot shown = book.lots[lot];
        switch (what) {
            case 0:
                return shown.investor;
            case 1:
                return shown.series;
            case 2:
                return shown.units;
            case 3:
                return shown.entryPrice;
            case 4:
                return shown.credit;
            case 5:
                return shown.day;
            default:
                throw new IllegalArgumentException("no such value");
        }
    }

    public long request(int request, int what) throws IndexOutOfBoundsException, IllegalArgumentException {
        checkRequest(request);
        Request shown = book.requests[request];
        switch (what) {
            case 0:
                return shown.investor;
            case 1:
                return shown.redemption ? 1 : 0;
            case 2:
                return shown.quantity;
            case 3:
                return shown.day;
            default:
                throw new IllegalArgumentException("no such value");
        }
    }

    public long unitsOf(int investor) throws IndexOutOfBoundsException {
        checkInvestor(investor);
        return book.unitsHeldBy(investor);
    }

    public long holding(int investor, int series) throws IndexOutOfBoundsException {
        checkInvestor(investor);
        placeOf(series);
        return book.unitsHeldIn(investor, series);
    }

    public long valueOf(int investor) throws IndexOutOfBoundsException {
        checkInvestor(investor);
        return desk.payAfterRate(book, investor, 0);
    }

    public int richest(int place) throws IndexOutOfBoundsException {
        checkInvestor(place);
        for (int investor = 0; investor < book.investors; investor++) {
            if (placeInRanking(investor) == place) {
                return investor;
            }
        }
        return NONE;
    }

    private int placeInRanking(int investor) {
        long value = desk.payAfterRate(book, investor, 0);
        int place = 0;
        for (int other = 0; other < book.investors; other++) {
            long otherValue = desk.payAfterRate(book, other, 0);
            if (otherValue > value || otherValue == value && other < investor) {
                place++;
            }
        }
        return place;
    }

    public double share(int investor) throws IndexOutOfBoundsException, ArithmeticException {
        checkInvestor(investor);
        long sum = 0;
        for (int i = 0; i < book.investors; i++) {
            sum += desk.payAfterRate(book, i, 0);
        }
        if (sum == 0) {
            throw new ArithmeticException("the investors have no value");
        }
        return (double) desk.payAfterRate(book, investor, 0) / (double) sum;
    }

    // ---- in thought

    public long requestedValue() {
        return desk.baseOfRedemptions(book);
    }

    public long gateLimit() {
        return book.limitOfGate();
    }

    public long wouldRedeem(int request) throws IndexOutOfBoundsException {
        checkRequest(request);
        if (!book.requests[request].redemption) {
            return 0;
        }
        thought.copyFrom(book);
        desk.redeemWaiting(thought, desk.baseOfRedemptions(thought));
        return thought.requests[request].redeemed;
    }

    public int dealsUntilDone(int request) throws IndexOutOfBoundsException {
        checkRequest(request);
        thought.copyFrom(book);
        int place = request;
        for (int deals = 1; deals <= DEALS_LIMIT; deals++) {
            desk.redeemWaiting(thought, desk.baseOfRedemptions(thought));
            desk.subscribeWaiting(thought);
            if (thought.isDone(place)) {
                return deals;
            }
            place -= thought.doneBefore(place);
            thought.dropDoneRequests();
        }
        return NONE;
    }

    public long feesIf(int rate) throws IllegalArgumentException {
        if (rate < LEAST_RATE || rate > GREATEST_RATE) {
            throw new IllegalArgumentException("no such rate");
        }
        thought.copyFrom(book);
        Fees.earnRate(thought, rate);
        long fees = 0;
        for (int i = 0; i < thought.seriesCount; i++) {
            fees += thought.series[i].accruedFee(thought.performanceFee);
        }
        return fees;
    }

    public int breakEven(int series) throws IndexOutOfBoundsException, NoSuchElementException {
        Series broken = book.series[placeOf(series)];
        if (broken.priceWith(broken.assetsAfter(GREATEST_RATE)) < broken.mark) {
            throw new NoSuchElementException("no rate reaches the mark");
        }
        int low = LEAST_RATE;
        int high = GREATEST_RATE;
        for (int step = 0; step < SEARCH_STEPS && low < high; step++) {
            int middle = Math.floorDiv(low + high, 2);
            if (broken.priceWith(broken.assetsAfter(middle)) < broken.mark) {
                low = middle + 1;
            } else {
                high = middle;
            }
        }
        return low;
    }

    public int rateFor(int investor, long value) throws IndexOutOfBoundsException, NoSuchElementException {
        checkInvestor(investor);
        for (int rate = firstRateInReach(investor, value); rate <= GREATEST_RATE; rate++) {
            if (desk.payAfterRate(book, investor, rate) >= value) {
                return rate;
            }
        }
        throw new NoSuchElementException("no rate reaches the value");
    }

    /**
     * A rate below which no rate reaches the value. The pay rises with the rate but for small falls, so a rate
     * that stays below the value by more than these rules out all lower ones.
     */
    private int firstRateInReach(int investor, long value) {
        long fall = book.fallOfPay(investor);
        int low = LEAST_RATE;
        int high = GREATEST_RATE + 1;
        for (int step = 0; step < SEARCH_STEPS && low < high; step++) {
            int middle = Math.floorDiv(low + high, 2);
            if (desk.payAfterRate(book, investor, middle) + fall < value) {
                low = middle + 1;
            } else {
                high = middle;
            }
        }
        return low;
    }

    public int daysUntil(long assets) throws IllegalArgumentException {
        if (assets < 0) {
            throw new IllegalArgumentException("no such assets");
        }
        thought.copyFrom(book);
        for (int days = 0; days <= DAYS_LIMIT; days++) {
            if (thought.netOfAll() <= assets) {
                return days;
            }
            Fees.chargeDays(thought, 1);
        }
        return NONE;
    }

    public long wouldCrystallize() {
        thought.copyFrom(book);
        return Fees.settleAll(thought);
    }

    public int wouldMerge() {
        thought.copyFrom(book);
        Fees.settleAll(thought);
        return Fees.mergeAll(thought);
    }

    public int bestGate(int request) throws IndexOutOfBoundsException {
        checkRequest(request);
        if (!book.requests[request].redemption) {
            return NONE;
        }
        long requested = desk.baseOfRedemptions(book);
        for (int gate = 1; gate <= GATE_LIMIT; gate++) {
            thought.copyFrom(book);
            thought.gate = gate;
            desk.redeemWaiting(thought, requested);
            if (thought.isDone(request)) {
                return gate;
            }
        }
        return NONE;
    }

    // ---- report

    public int writeReport() {
        report.write(book);
        return report.length;
    }

    public int reportByte(int index) throws IndexOutOfBoundsException {
        if (index < 0 || index >= report.length) {
            throw new IndexOutOfBoundsException("no such byte");
        }
        return report.bytes[index];
    }

    // ---- undo

    public int undo() throws IllegalStateException {
        if (remembered == 0 || past[newest] == null) {
            throw new IllegalStateException("there is nothing to undo");
        }
        book.copyFrom(past[newest]);
        newest = newest > 0 ? newest - 1 : UNDO_LIMIT - 1;
        remembered--;
        return remembered;
    }

    public int undoDepth() {
        return remembered;
    }

    // ---- the parts of the books

    private static final class Series {
        int number = 0;
        int startDay = 0;
        long assets = 0;
        long units = 0;
        long mark = FIRST_PRICE;

        void copyFrom(Series other) {
            number = other.number;
            startDay = other.startDay;
            assets = other.assets;
            units = other.units;
            mark = other.mark;
        }

        void begin(int newNumber, int today) {
            number = newNumber;
            startDay = today;
            assets = 0;
            units = 0;
            mark = FIRST_PRICE;
        }

        long grossPrice() {
            return units > 0 ? assets * PRICE_SCALE / units : FIRST_PRICE;
        }

        long netPrice(int performanceFee) {
            return priceWith(assets - accruedFee(performanceFee));
        }

        /** A series without units is a new one: its price counts as the first price. */
        long priceWith(long money) {
            return units > 0 ? money * PRICE_SCALE / units : FIRST_PRICE;
        }

        /**
         * The mark is divided before it is multiplied: after a fall, cheap units can be so many that
         * mark * units is beyond a long.
         */
        long accruedFee(int performanceFee) {
            long atMark = mark / PRICE_SCALE * units + mark % PRICE_SCALE * units / PRICE_SCALE;
            long excess = assets - atMark;
            return excess > 0 ? excess * performanceFee / 100 : 0;
        }

        long assetsAfter(int rate) {
            return assets + assets * rate / RATE_SCALE;
        }
    }

    private static final class Lot {
        int investor = 0;
        int series = 0;
        int day = 0;
        long units = 0;
        long entryPrice = 0;
        long credit = 0;

        void copyFrom(Lot other) {
            investor = other.investor;
            series = other.series;
            day = other.day;
            units = other.units;
            entryPrice = other.entryPrice;
            credit = other.credit;
        }
    }

    /** A request whose quantity is 0 has been carried out completely. */
    private static final class Request {
        int investor = 0;
        int day = 0;
        boolean redemption = false;
        long quantity = 0;
        long redeemed = 0;

        void copyFrom(Request other) {
            investor = other.investor;
            day = other.day;
            redemption = other.redemption;
            quantity = other.quantity;
            redeemed = other.redeemed;
        }
    }

    /** The whole state of a fund: what undo() brings back and what look-aheads copy. */
    private static final class Book {
        int investors = 1;
        int method = SERIES_METHOD;
        int managementRate = 0;
        int performanceFee = 0;
        int gate = GATE_LIMIT;
        int day = 0;
        int opened = 0;
        int seriesCount = 0;
        int lotCount = 0;
        int requestCount = 0;
        final long[] accounts = new long[ACCOUNTS];
        final Series[] series = new Series[SERIES_LIMIT];
        final Lot[] lots = new Lot[LOT_LIMIT];
        final Request[] requests = new Request[REQUEST_LIMIT];

        Book() {
            for (int i = 0; i < SERIES_LIMIT; i++) {
                series[i] = new Series();
            }
            for (int i = 0; i < LOT_LIMIT; i++) {
                lots[i] = new Lot();
            }
            for (int i = 0; i < REQUEST_LIMIT; i++) {
                requests[i] = new Request();
            }
        }

        void copyFrom(Book other) {
            investors = other.investors;
            method = other.method;
            managementRate = other.managementRate;
            performanceFee = other.performanceFee;
            gate = other.gate;
            day = other.day;
            opened = other.opened;
            seriesCount = other.seriesCount;
            lotCount = other.lotCount;
            requestCount = other.requestCount;
            for (int i = 0; i < ACCOUNTS; i++) {
                accounts[i] = other.accounts[i];
            }
            for (int i = 0; i < seriesCount; i++) {
                series[i].copyFrom(other.series[i]);
            }
            for (int i = 0; i < lotCount; i++) {
                lots[i].copyFrom(other.lots[i]);
            }
            for (int i = 0; i < requestCount; i++) {
                requests[i].copyFrom(other.requests[i]);
            }
        }

        /** Makes this the book of a new fund; its terms are filled in while the fund text is read. */
        void empty() {
            day = 0;
            opened = 0;
            seriesCount = 0;
            lotCount = 0;
            requestCount = 0;
            for (int i = 0; i < ACCOUNTS; i++) {
                accounts[i] = 0;
            }
        }

        boolean hasInvestor(int investor) {
            return investor >= 0 && investor < investors;
        }

        long unitsHeldBy(int investor) {
            long sum = 0;
            for (int i = 0; i < lotCount; i++) {
                if (lots[i].investor == investor) {
                    sum += lots[i].units;
                }
            }
            return sum;
        }

        long unitsHeldIn(int investor, int number) {
            long sum = 0;
            for (int i = 0; i < lotCount; i++) {
                if (lots[i].investor == investor && lots[i].series == number) {
                    sum += lots[i].units;
                }
            }
            return sum;
        }

        int lotsOfSeries(int number) {
            int sum = 0;
            for (int i = 0; i < lotCount; i++) {
                if (lots[i].series == number) {
                    sum++;
                }
            }
            return sum;
        }

        int placeOfSeries(int number) {
            for (int i = 0; i < seriesCount; i++) {
                if (series[i].number == number) {
                    return i;
                }
            }
            return NONE;
        }

        long netOfAll() {
            long sum = 0;
            for (int i = 0; i < seriesCount; i++) {
                sum += series[i].assets - series[i].accruedFee(performanceFee);
            }
            return sum;
        }

        long limitOfGate() {
            return netOfAll() * gate / 100;
        }

        /**
         * By how much the pay for all units of an investor can fall at most while the rate rises. What a lot
         * takes out of its series never falls; only what is due on it can rise faster for a moment: by a unit
         * of the price, and by the cents that the divisions cut off.
         */
        long fallOfPay(int investor) {
            long sum = 0;
            for (int i = 0; i < lotCount; i++) {
                if (lots[i].investor == investor && canBeDue(lots[i])) {
                    sum += 5 + lots[i].units * performanceFee / 100 / PRICE_SCALE;
                }
            }
            return sum;
        }

        private boolean canBeDue(Lot lot) {
            int place = placeOfSeries(lot.series);
            return method == EQUALIZATION && place != NONE && lot.entryPrice < series[place].mark;
        }

        // -- series and lots

        /** Opens a series; the caller has looked that fewer than six are open. */
        Series beginSeries() {
            int place = Math.min(seriesCount, SERIES_LIMIT - 1);
            series[place].begin(opened, day);
            seriesCount = place + 1;
            opened++;
            return series[place];
        }

        /** Appends a lot of today; the caller has looked that fewer than forty are there. */
        Lot addLot(int investor, int number, long units, long entryPrice, long credit) {
            int place = Math.min(lotCount, LOT_LIMIT - 1);
            Lot added = lots[place];
            added.investor = investor;
            added.series = number;
            added.units = units;
            added.entryPrice = entryPrice;
            added.credit = credit;
            added.day = day;
            lotCount = place + 1;
            return added;
        }

        /** Lots without units are moved behind the last one, where their rows can be used again. */
        void dropEmptyLots() {
            int kept = 0;
            for (int i = 0; i < lotCount; i++) {
                Lot moved = lots[i];
                if (moved.units > 0) {
                    lots[i] = lots[kept];
                    lots[kept] = moved;
                    kept++;
                }
            }
            lotCount = kept;
        }

        void closeEmptySeries() {
            int kept = 0;
            for (int i = 0; i < seriesCount; i++) {
                Series moved = series[i];
                if (moved.units > 0) {
                    series[i] = series[kept];
                    series[kept] = moved;
                    kept++;
                } else {
                    accounts[ROUNDING] += moved.assets;
                }
            }
            seriesCount = kept;
        }

        int transferFault(int from, int to, int units) {
            if (!hasInvestor(from) || !hasInvestor(to)) {
                return NOT_THERE;
            }
            if (from == to || units < 1 || units > UNITS_LIMIT) {
                return OUT_OF_RANGE;
            }
            if (unitsHeldBy(from) < units + unitsWaitingOf(from)) {
                return NOT_NOW;
            }
            return lotCount >= LOT_LIMIT && splitsLot(from, units) ? NOT_NOW : NO_FAULT;
        }

        private boolean splitsLot(int investor, long units) {
            long left = units;
            for (int i = 0; i < lotCount && left > 0; i++) {
                if (lots[i].investor == investor) {
                    left -= lots[i].units;
                }
            }
            return left < 0;
        }

        void moveUnits(int from, int to, long units) {
            long left = units;
            int present = lotCount;
            for (int i = 0; i < present && left > 0; i++) {
                Lot used = lots[i];
                if (used.investor == from) {
                    long part = Math.min(left, used.units);
                    left -= part;
                    if (part == used.units) {
                        used.investor = to;
                    } else {
                        splitLot(used, to, part);
                    }
                }
            }
        }

        private void splitLot(Lot old, int to, long part) {
            if (old.units <= 0) {
                return;
            }
            long credit = old.credit * part / old.units;
            Lot added = addLot(to, old.series, part, old.entryPrice, credit);
            added.day = old.day;
            old.units -= part;
            old.credit -= credit;
        }

        // -- requests

        int subscriptionFault(int investor, int amount) {
            if (!hasInvestor(investor)) {
                return NOT_THERE;
            }
            if (amount < 1 || amount > AMOUNT_LIMIT) {
                return OUT_OF_RANGE;
            }
            return requestCount >= REQUEST_LIMIT ? NOT_NOW : NO_FAULT;
        }

        int redemptionFault(int investor, int units) {
            if (!hasInvestor(investor)) {
                return NOT_THERE;
            }
            if (units < 1 || units > UNITS_LIMIT) {
                return OUT_OF_RANGE;
            }
            if (requestCount >= REQUEST_LIMIT) {
                return NOT_NOW;
            }
            return unitsWaitingOf(investor) + units > unitsHeldBy(investor) ? NOT_NOW : NO_FAULT;
        }

        long unitsWaitingOf(int investor) {
            long sum = 0;
            for (int i = 0; i < requestCount; i++) {
                if (requests[i].redemption && requests[i].investor == investor) {
                    sum += requests[i].quantity;
                }
            }
            return sum;
        }

        /** Appends a request of today; the caller has looked that fewer than twelve wait. */
        int addRequest(int investor, boolean redemption, long quantity) {
            int place = Math.min(requestCount, REQUEST_LIMIT - 1);
            Request added = requests[place];
            added.investor = investor;
            added.redemption = redemption;
            added.quantity = quantity;
            added.redeemed = 0;
            added.day = day;
            requestCount = place + 1;
            return place;
        }

        void removeRequest(int place) {
            if (place >= 0 && place < requestCount) {
                requests[place].quantity = 0;
                dropDoneRequests();
            }
        }

        boolean isDone(int place) {
            return place >= 0 && place < requestCount && requests[place].quantity == 0;
        }

        int doneBefore(int place) {
            int done = 0;
            for (int i = 0; i < place && i < requestCount; i++) {
                if (requests[i].quantity == 0) {
                    done++;
                }
            }
            return done;
        }

        int dropDoneRequests() {
            int kept = 0;
            for (int i = 0; i < requestCount; i++) {
                Request moved = requests[i];
                if (moved.quantity > 0) {
                    requests[i] = requests[kept];
                    requests[kept] = moved;
                    kept++;
                }
            }
            int dropped = requestCount - kept;
            requestCount = kept;
            return dropped;
        }
    }

    /** Dealing: what redemptions pay, really and in thought, and what subscriptions buy. */
    private static final class Desk {
        private final Series[] trial = new Series[SERIES_LIMIT];
        private long base = 0;
        private long part = 0;
        private long usedCredit = 0;
        private long back = 0;
        private long due = 0;

        Desk() {
            for (int i = 0; i < SERIES_LIMIT; i++) {
                trial[i] = new Series();
            }
        }

        int holdDealing(Book book) {
            redeemWaiting(book, baseOfRedemptions(book));
            subscribeWaiting(book);
            return book.dropDoneRequests();
        }

        // -- redemptions

        /** The requests that are carried out completely are left in the list, with the quantity 0. */
        void redeemWaiting(Book book, long requested) {
            long limit = book.limitOfGate();
            for (int i = 0; i < book.requestCount; i++) {
                Request request = book.requests[i];
                if (request.redemption) {
                    long units = request.quantity;
                    if (requested > limit && requested > 0) {
                        units = units * limit / requested;
                    }
                    request.redeemed = redeemUnits(book, request.investor, units);
                    request.quantity -= units;
                }
            }
            for (int i = 0; i < book.requestCount; i++) {
                Request request = book.requests[i];
                if (request.redemption && book.unitsHeldBy(request.investor) == 0) {
                    request.quantity = 0;
                }
            }
        }

        long baseOfRedemptions(Book book) {
            long sum = 0;
            for (int i = 0; i < book.requestCount; i++) {
                Request request = book.requests[i];
                if (request.redemption) {
                    resetTrial(book, 0);
                    sum += tryRedemption(book, request.investor, request.quantity, false);
                }
            }
            return sum;
        }

        /** What an investor would be paid for all units after a rate had been earned. */
        long payAfterRate(Book book, int investor, int rate) {
            resetTrial(book, rate);
            return tryRedemption(book, investor, ALL_UNITS, true);
        }

        private void resetTrial(Book book, int rate) {
            for (int i = 0; i < book.seriesCount; i++) {
                trial[i].copyFrom(book.series[i]);
                trial[i].assets = trial[i].assetsAfter(rate);
            }
        }

        /** A lot is used but once in a redemption, so in thought only the series need copies. */
        private long tryRedemption(Book book, int investor, long units, boolean pay) {
            long sum = 0;
            long left = units;
            for (int i = 0; i < book.lotCount && left > 0; i++) {
                Lot lot = book.lots[i];
                int place = book.placeOfSeries(lot.series);
                if (lot.investor == investor && place != NONE) {
                    long used = Math.min(left, lot.units);
                    quote(book, trial[place], lot, used);
                    trial[place].assets -= base + part;
                    trial[place].units -= used;
                    left -= used;
                    sum += pay ? base + back - due : base;
                }
            }
            return sum;
        }

        private long redeemUnits(Book book, int investor, long units) {
            long left = units;
            for (int i = 0; i < book.lotCount && left > 0; i++) {
                Lot lot = book.lots[i];
                int place = book.placeOfSeries(lot.series);
                if (lot.investor == investor && place != NONE) {
                    long used = Math.min(left, lot.units);
                    quote(book, book.series[place], lot, used);
                    takeOut(book, book.series[place], lot, used);
                    left -= used;
                }
            }
            book.dropEmptyLots();
            book.closeEmptySeries();
            return units - left;
        }

        private void takeOut(Book book, Series series, Lot lot, long used) {
            series.assets -= base + part;
            series.units -= used;
            lot.units -= used;
            lot.credit -= usedCredit;
            book.accounts[MANAGER] += part - back + due;
            book.accounts[PAID_OUT] += base + back - due;
        }

        private void quote(Book book, Series series, Lot lot, long used) {
            long fee = series.accruedFee(book.performanceFee);
            boolean there = series.units > 0 && lot.units > 0;
            base = there ? (series.assets - fee) * used / series.units : 0;
            part = there ? fee * used / series.units : 0;
            usedCredit = there ? lot.credit * used / lot.units : 0;
            back = Math.min(part, usedCredit);
            due = there && book.method == EQUALIZATION
                    ? Fees.dueOn(used, lot.entryPrice, Math.min(series.grossPrice(), series.mark), book.performanceFee)
                    : 0;
        }

        // -- subscriptions

        /** The requests that are carried out completely are left in the list, with the quantity 0. */
        void subscribeWaiting(Book book) {
            int place = book.method == EQUALIZATION && book.seriesCount > 0 ? 0 : NONE;
            for (int i = 0; i < book.requestCount; i++) {
                Request request = book.requests[i];
                if (!request.redemption && takeIn(book, request, place)) {
                    request.quantity = 0;
                    place = place == NONE ? book.seriesCount - 1 : place;
                }
            }
        }

        /** The place is that of the series for subscriptions, NONE if one has to be opened. */
        private boolean takeIn(Book book, Request request, int place) {
            boolean opens = place < 0 || place >= book.seriesCount;
            long price = opens || book.method != EQUALIZATION ? FIRST_PRICE : book.series[place].grossPrice();
            if (price <= 0 || book.lotCount >= LOT_LIMIT || opens && book.seriesCount >= SERIES_LIMIT) {
                return false;
            }
            long units = request.quantity * PRICE_SCALE / price;
            if (units < 1 || units > LOT_UNITS_LIMIT) {
                return false;
            }
            Series series = opens ? book.beginSeries() : book.series[place];
            long credit = Fees.dueOn(units, series.mark, price, book.performanceFee);
            book.addLot(request.investor, series.number, units, price, credit);
            series.assets += request.quantity;
            series.units += units;
            book.accounts[PAID_IN] += request.quantity;
            return true;
        }
    }

    /** Returns, fees and merging. */
    private static final class Fees {
        private Fees() {
        }

        /** The performance fee on units for the rise from one price to another one, 0 if it is no rise. */
        static long dueOn(long units, long from, long to, int performanceFee) {
            return to > from ? units * (to - from) * performanceFee / 100 / PRICE_SCALE : 0;
        }

        static int earningFault(Book book, int rate) {
            if (rate < LEAST_RATE || rate > GREATEST_RATE) {
                return OUT_OF_RANGE;
            }
            for (int i = 0; i < book.seriesCount && rate > 0; i++) {
                long after = book.series[i].assetsAfter(rate);
                if (after > ASSETS_LIMIT || book.series[i].priceWith(after) > PRICE_LIMIT) {
                    return NOT_NOW;
                }
            }
            return NO_FAULT;
        }

        static long earnRate(Book book, int rate) {
            long gains = 0;
            for (int i = 0; i < book.seriesCount; i++) {
                long after = book.series[i].assetsAfter(rate);
                gains += after - book.series[i].assets;
                book.series[i].assets = after;
            }
            book.accounts[GAINS] += gains;
            return gains;
        }

        static int passingFault(int days) {
            return days < 1 || days > DAYS_LIMIT ? OUT_OF_RANGE : NO_FAULT;
        }

        static long chargeDays(Book book, int days) {
            long fees = 0;
            for (int passed = 0; passed < days; passed++) {
                for (int i = 0; i < book.seriesCount; i++) {
                    long fee = book.series[i].assets * book.managementRate / YEAR_SCALE;
                    book.series[i].assets -= fee;
                    fees += fee;
                }
                book.day++;
            }
            book.accounts[MANAGER] += fees;
            book.accounts[MANAGEMENT_FEES] += fees;
            return fees;
        }

        static long settleAll(Book book) {
            long before = book.accounts[MANAGER];
            for (int i = 0; i < book.seriesCount; i++) {
                settleSeries(book, book.series[i]);
            }
            book.dropEmptyLots();
            book.closeEmptySeries();
            return book.accounts[MANAGER] - before;
        }

        private static void settleSeries(Book book, Series series) {
            long price = series.grossPrice();
            long fee = series.accruedFee(book.performanceFee);
            series.assets -= fee;
            book.accounts[MANAGER] += fee;
            long priceAfter = series.grossPrice();
            for (int i = 0; i < book.lotCount; i++) {
                Lot lot = book.lots[i];
                if (lot.series == series.number) {
                    if (book.method == EQUALIZATION) {
                        giveBack(book, series, lot, price, priceAfter);
                        takeDue(book, series, lot, price, priceAfter);
                    }
                    lot.entryPrice = priceAfter;
                    lot.credit = 0;
                }
            }
            if (fee > 0) {
                series.mark = priceAfter;
            }
        }

        private static void giveBack(Book book, Series series, Lot lot, long price, long priceAfter) {
            long paidFor = lot.entryPrice - series.mark;
            if (paidFor <= 0 || price <= series.mark || priceAfter <= 0) {
                return;
            }
            long back = lot.credit * Math.min(price - series.mark, paidFor) / paidFor;
            long units = back * PRICE_SCALE / priceAfter;
            series.assets += back;
            book.accounts[MANAGER] -= back;
            lot.units += units;
            series.units += units;
        }

        private static void takeDue(Book book, Series series, Lot lot, long price, long priceAfter) {
            long reached = Math.min(price, series.mark);
            if (lot.entryPrice >= reached || priceAfter <= 0) {
                return;
            }
            long due = dueOn(lot.units, lot.entryPrice, reached, book.performanceFee);
            long units = Math.min(lot.units, due * PRICE_SCALE / priceAfter);
            series.assets -= due;
            book.accounts[MANAGER] += due;
            lot.units -= units;
            series.units -= units;
        }

        static int mergeAll(Book book) {
            if (book.method == EQUALIZATION || book.seriesCount == 0) {
                return 0;
            }
            Series lead = book.series[0];
            long leadPrice = lead.grossPrice();
            if (leadPrice != lead.mark) {
                return 0;
            }
            int merged = 0;
            for (int i = 1; i < book.seriesCount; i++) {
                if (book.series[i].grossPrice() == book.series[i].mark) {
                    absorb(book, lead, leadPrice, book.series[i]);
                    merged++;
                }
            }
            book.dropEmptyLots();
            book.closeEmptySeries();
            return merged;
        }

        private static void absorb(Book book, Series lead, long leadPrice, Series other) {
            long price = other.grossPrice();
            for (int i = 0; i < book.lotCount; i++) {
                Lot lot = book.lots[i];
                if (lot.series == other.number) {
                    lot.units = leadPrice > 0 ? lot.units * price / leadPrice : 0;
                    lot.series = lead.number;
                    lot.entryPrice = leadPrice;
                    lead.units += lot.units;
                }
            }
            lead.assets += other.assets;
            other.assets = 0;
            other.units = 0;
        }
    }

    // ---- texts

    /** The text buffer, and the tokens of the text that was in it, one at a time. */
    private static final class Tokens {
        static final int END = 0;
        static final int WORD = 1;
        static final int NUMBER = 2;
        static final int SEMICOLON = 3;
        static final int BAD = 4;
        private static final int NUMBER_LENGTH = 7;

        private final char[] text = new char[TEXT_LIMIT];
        int held = 0;
        private int length = 0;
        private int end = 0;
        int start = 0;
        int kind = END;
        /** The number; NONE, which is in no range, if it has too many digits. */
        int value = NONE;

        void putFour(int four) {
            for (int shift = 24; shift >= 0 && held < TEXT_LIMIT; shift -= 8) {
                text[held] = (char) (four >>> shift & 255);
                held++;
            }
        }

        /** Begins to read what the buffer holds; the buffer is empty from now on. */
        void takeBuffer() {
            length = held;
            held = 0;
            start = 0;
            end = 0;
            kind = END;
        }

        void advance() {
            start = end;
            while (start < length && (text[start] == ' ' || text[start] == '\n')) {
                start++;
            }
            end = start;
            if (start >= length) {
                kind = END;
            } else if (isLetter(start)) {
                kind = WORD;
                while (end < length && isLetter(end)) {
                    end++;
                }
            } else if (isDigit(start)) {
                kind = NUMBER;
                value = 0;
                while (end < length && isDigit(end)) {
                    value = end - start < NUMBER_LENGTH ? value * 10 + (text[end] - '0') : NONE;
                    end++;
                }
            } else {
                kind = text[start] == ';' ? SEMICOLON : BAD;
                end = start + 1;
            }
        }

        private boolean isLetter(int place) {
            return text[place] >= 'a' && text[place] <= 'z';
        }

        private boolean isDigit(int place) {
            return text[place] >= '0' && text[place] <= '9';
        }

        boolean isWord(String word) {
            if (kind != WORD || end - start != word.length()) {
                return false;
            }
            for (int i = 0; i < word.length(); i++) {
                if (text[start + i] != word.charAt(i)) {
                    return false;
                }
            }
            return true;
        }
    }

    /** Reads a fund text into a book; after an error the tokens stand at the token with the error. */
    private static final class FundText {
        private final Tokens tokens;
        private final Book book;
        int code = 0;

        FundText(Tokens tokens, Book book) {
            this.tokens = tokens;
            this.book = book;
        }

        boolean readAll() {
            book.empty();
            return readFund() && readInvestors() && readSubscriptions();
        }

        private boolean readFund() {
            if (!readWord("fund") || !readMethod() || !readNumber(0, MANAGEMENT_RATE_LIMIT)) {
                return false;
            }
            book.managementRate = tokens.value;
            if (!readNumber(0, PERFORMANCE_FEE_LIMIT)) {
                return false;
            }
            book.performanceFee = tokens.value;
            if (!readNumber(1, GATE_LIMIT)) {
                return false;
            }
            book.gate = tokens.value;
            return readSemicolon();
        }

        private boolean readMethod() {
            tokens.advance();
            book.method = tokens.isWord("equal") ? EQUALIZATION : SERIES_METHOD;
            return accept(book.method == EQUALIZATION || tokens.isWord("series"), MISPLACED);
        }

        private boolean readInvestors() {
            if (!readWord("investors") || !readNumber(1, INVESTOR_LIMIT)) {
                return false;
            }
            book.investors = tokens.value;
            return readSemicolon();
        }

        private boolean readSubscriptions() {
            for (int i = 0; i <= REQUEST_LIMIT; i++) {
                tokens.advance();
                if (tokens.kind == Tokens.END) {
                    return true;
                }
                if (!accept(tokens.isWord("subscribe"), MISPLACED)
                        || !accept(i < REQUEST_LIMIT, TOO_MANY) || !readSubscription()) {
                    return false;
                }
            }
            return false;
        }

        private boolean readSubscription() {
            if (!readNumber(0, book.investors - 1)) {
                return false;
            }
            int investor = tokens.value;
            if (!readNumber(1, AMOUNT_LIMIT)) {
                return false;
            }
            book.addRequest(investor, false, tokens.value);
            return readSemicolon();
        }

        private boolean readWord(String word) {
            tokens.advance();
            return accept(tokens.isWord(word), MISPLACED);
        }

        private boolean readSemicolon() {
            tokens.advance();
            return accept(tokens.kind == Tokens.SEMICOLON, MISPLACED);
        }

        private boolean readNumber(int least, int greatest) {
            tokens.advance();
            return accept(tokens.kind == Tokens.NUMBER, MISPLACED)
                    && accept(tokens.value >= least && tokens.value <= greatest, BAD_NUMBER);
        }

        private boolean accept(boolean right, int errorCode) {
            if (!right) {
                code = errorCode;
            }
            return right;
        }
    }

    /** Reads and executes the operations of a script text. */
    private static final class Script {
        private static final int SUBSCRIBE = 0;
        private static final int REDEEM = 1;
        private static final int DEAL = 2;
        private static final int GAIN = 3;
        private static final int LOSE = 4;
        private static final int PASS = 5;
        private static final int CRYSTALLIZE = 6;
        private static final int MERGE = 7;

        private final Tokens tokens;
        private final Book book;
        private final Desk desk;
        private int operation = NONE;
        private int first = 0;
        private int second = 0;

        Script(Tokens tokens, Book book, Desk desk) {
            this.tokens = tokens;
            this.book = book;
            this.desk = desk;
        }

        /** Begins at the word, which has been read; if it fails, the tokens stand at the wrong one. */
        boolean readOperation() {
            operation = operationOfWord();
            if (operation == NONE) {
                return false;
            }
            int numbers = numbersOf(operation);
            if (numbers > 0) {
                if (!readNumber()) {
                    return false;
                }
                first = tokens.value;
            }
            if (numbers > 1) {
                if (!readNumber()) {
                    return false;
                }
                second = tokens.value;
            }
            tokens.advance();
            return tokens.kind == Tokens.SEMICOLON;
        }

        private boolean readNumber() {
            tokens.advance();
            return tokens.kind == Tokens.NUMBER && tokens.value != NONE;
        }

        private int operationOfWord() {
            if (tokens.isWord("subscribe")) {
                return SUBSCRIBE;
            }
            if (tokens.isWord("redeem")) {
                return REDEEM;
            }
            if (tokens.isWord("deal")) {
                return DEAL;
            }
            if (tokens.isWord("gain")) {
                return GAIN;
            }
            if (tokens.isWord("lose")) {
                return LOSE;
            }
            if (tokens.isWord("pass")) {
                return PASS;
            }
            if (tokens.isWord("crystallize")) {
                return CRYSTALLIZE;
            }
            return tokens.isWord("merge") ? MERGE : NONE;
        }

        private static int numbersOf(int operation) {
            if (operation == SUBSCRIBE || operation == REDEEM) {
                return 2;
            }
            return operation == GAIN || operation == LOSE || operation == PASS ? 1 : 0;
        }

        boolean execute() {
            if (fault() != NO_FAULT) {
                return false;
            }
            switch (operation) {
                case SUBSCRIBE:
                    book.addRequest(first, false, second);
                    break;
                case REDEEM:
                    book.addRequest(first, true, second);
                    break;
                case DEAL:
                    desk.holdDealing(book);
                    break;
                case GAIN:
                    Fees.earnRate(book, first);
                    break;
                case LOSE:
                    Fees.earnRate(book, -first);
                    break;
                case PASS:
                    Fees.chargeDays(book, first);
                    break;
                case CRYSTALLIZE:
                    Fees.settleAll(book);
                    break;
                default:
                    Fees.mergeAll(book);
                    break;
            }
            return true;
        }

        private int fault() {
            switch (operation) {
                case SUBSCRIBE:
                    return book.subscriptionFault(first, second);
                case REDEEM:
                    return book.redemptionFault(first, second);
                case GAIN:
                    return Fees.earningFault(book, first);
                case LOSE:
                    return Fees.earningFault(book, -first);
                case PASS:
                    return Fees.passingFault(first);
                default:
                    return NO_FAULT;
            }
        }
    }

    // ---- report

    private static final class Report {
        final byte[] bytes = new byte[REPORT_LIMIT];
        int length = 0;
        private final byte[] digits = new byte[DIGITS_LIMIT];

        void write(Book book) {
            length = 0;
            putText("day ");
            putNumber(book.day);
            putText(" assets ");
            putNumber(book.netOfAll());
            putText("\n");
            for (int i = 0; i < book.seriesCount; i++) {
                writeSeries(book, book.series[i]);
            }
        }

        private void writeSeries(Book book, Series series) {
            putText("series ");
            putNumber(series.number);
            putText(" ");
            putNumber(series.netPrice(book.performanceFee));
            putText(" ");
            putNumber(series.mark);
            for (int investor = 0; investor < book.investors; investor++) {
                long units = book.unitsHeldIn(investor, series.number);
                if (units > 0) {
                    putText(" ");
                    putNumber(investor);
                    putText(":");
                    putNumber(units);
                }
            }
            putText("\n");
        }

        private void putText(String word) {
            for (int i = 0; i < word.length(); i++) {
                putByte((byte) word.charAt(i));
            }
        }

        private void putNumber(long number) {
            if (number < 0) {
                putText("-");
            }
            long rest = number;
            int first = DIGITS_LIMIT;
            do {
                first--;
                digits[first] = (byte) ('0' + Math.abs(rest % 10));
                rest /= 10;
            } while (rest != 0 && first > 0);
            for (int i = first; i < DIGITS_LIMIT; i++) {
                putByte(digits[i]);
            }
        }

        private void putByte(byte one) {
            if (length < REPORT_LIMIT) {
                bytes[length] = one;
                length++;
            }
        }
    }
}
