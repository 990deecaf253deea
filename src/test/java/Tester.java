/** Counts the wrong answers of a test and puts texts into the buffer of a fund. */
final class Tester {
    interface Call {
        Object run();
    }

    private final String title;
    private int wrong = 0;
    private int asked = 0;

    Tester(String title) {
        this.title = title;
    }

    void due(String call, Object got, Object want) {
        asked++;
        if (!String.valueOf(got).equals(String.valueOf(want))) {
            wrong++;
            System.out.println(title + ": " + call + " answered " + got + ", due is " + want);
        }
    }

    /** The name of what a call throws behind "throws.", or else its answer. */
    static Object answer(Call call) {
        try {
            return call.run();
        } catch (RuntimeException e) {
            return "throws." + e.getClass().getSimpleName();
        }
    }

    void call(String name, Call call, Object want) {
        due(name, answer(call), want);
    }

    void index(String name, Call call) {
        call(name, call, "throws.IndexOutOfBoundsException");
    }

    void argument(String name, Call call) {
        call(name, call, "throws.IllegalArgumentException");
    }

    void state(String name, Call call) {
        call(name, call, "throws.IllegalStateException");
    }

    void missing(String name, Call call) {
        call(name, call, "throws.NoSuchElementException");
    }

    int wrong() {
        return wrong;
    }

    void end() {
        System.out.println(title + ": " + asked + " answers, " + wrong + " wrong");
        if (wrong > 0) {
            System.exit(1);
        }
    }

    // ---- texts

    /** Puts exactly these characters into the (empty) buffer. */
    static void put(SeriesFund fund, String text) {
        fund.truncateText(0);
        StringBuilder padded = new StringBuilder(text);
        while (padded.length() % 20 != 0) {
            padded.append(' ');
        }
        for (int i = 0; i < padded.length(); i += 20) {
            fund.appendText(four(padded, i), four(padded, i + 4), four(padded, i + 8), four(padded, i + 12),
                    four(padded, i + 16));
        }
        fund.truncateText(text.length());
    }

    private static int four(CharSequence text, int from) {
        return text.charAt(from) << 24 | text.charAt(from + 1) << 16 | text.charAt(from + 2) << 8
                | text.charAt(from + 3);
    }

    static int parse(SeriesFund fund, String text) {
        put(fund, text);
        return fund.parseFund();
    }

    static int script(SeriesFund fund, String text) {
        put(fund, text);
        return fund.runScript();
    }

    /** A new fund of a text, which has to be right. */
    static SeriesFund fund(String text) {
        SeriesFund fund = new SeriesFund();
        if (parse(fund, text) < 0) {
            throw new IllegalStateException("the test's own fund text is wrong: " + text);
        }
        return fund;
    }

    static String report(SeriesFund fund) {
        int length = fund.writeReport();
        StringBuilder out = new StringBuilder();
        for (int i = 0; i < length; i++) {
            out.append((char) fund.reportByte(i));
        }
        return out.toString();
    }

    // ---- states

    /** Everything that can be asked about the state, in the form of PlainFund.state(). */
    static String stateOf(SeriesFund x) {
        StringBuilder out = new StringBuilder();
        line(out, "", 10, x::count);
        line(out, "", 6, x::account);
        for (int i = 0; i < x.count(6); i++) {
            int number = x.openSeries(i);
            line(out, "s " + number + " ", 8, what -> x.seriesValue(number, what));
        }
        for (int i = 0; i < x.count(7); i++) {
            int lot = i;
            line(out, "l ", 6, what -> x.lot(lot, what));
        }
        for (int i = 0; i < x.count(8); i++) {
            int request = i;
            line(out, "r ", 4, what -> x.request(request, what));
        }
        return out.toString();
    }

    interface Value {
        long of(int what);
    }

    private static void line(StringBuilder out, String start, int values, Value value) {
        out.append(start);
        for (int what = 0; what < values; what++) {
            out.append(what > 0 ? " " : "").append(value.of(what));
        }
        out.append('\n');
    }

}
