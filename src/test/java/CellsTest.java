/** The edges of tables: of windows, matches, groups, functions and operators, and what is there when nothing is. */
public final class CellsTest {
    private static final long MOST = 1099511627775L;
    private static final int NONE = WindowTables.NONE;
    private static final long LEAST_NUMBER = Long.MIN_VALUE;
    private static final String LEAST = "(0-9223372036854775807-1)";
    private static final String LONG = "abcdefghijklmnopqrstuvwx";

    public static void main(String[] args) {
        arguments();
        windows();
        windowsAtTheLastTime();
        matches();
        emptyRows();
        numbers();
        groups();
        sums();
        firstAndLatest();
        growth();
        growthBefore();
        orderOfRows();
        together();
        wrapping();
        nothings();
        replacing();
        names();
        texts();
        cells();
        packedOrNot();
        greatestTables();
        deepestQuestion();
        longestQuestion();
        Check.finish("CellsTest");
    }

    private static void is(WindowTables x, String question, long from, long width, int n, String want) {
        Check.due(question + " from " + from, Check.answered(x, question, from, width, n), want);
    }

    private static void is(String question, String want) {
        is(new WindowTables(), question, 0, 1, 1, want);
    }

    /** Series 0, 1, .. with these texts and a point each, at times 1, 2, .. with values 10, 20, .. */
    private static WindowTables with(String... texts) {
        WindowTables x = new WindowTables();
        for (int s = 0; s < texts.length; s++) {
            Check.series(x, texts[s]);
            x.append(s, s + 1, 10 * (s + 1));
        }
        return x;
    }

    private static void asked(long from, long width, int n) {
        WindowTables x = new WindowTables();
        Check.due("ask(" + from + ", " + width + ", " + n + ")", Check.ask(x, "5", from, width, n), 1);
        Check.due("the last window", x.cell(0, n - 1), 5);
        Check.refused("the one behind it", IndexOutOfBoundsException.class, () -> x.cell(0, n));
    }

    private static void arguments() {
        Check.sentence("11 ask: from is no time, width not 1 .. 1099511627775, or n not 1 .. 64");
        asked(0, 1, 1);
        asked(MOST, 1, 1);
        asked(0, MOST, 1);
        asked(0, 1, 64);
        asked(MOST, MOST, 64);
        WindowTables x = new WindowTables();
        Check.feed(x, "5");
        long[][] wrong = {{-1, 1, 1}, {MOST + 1, 1, 1}, {0, 0, 1}, {0, MOST + 1, 1}, {0, 1, 0}, {0, 1, 65}};
        for (long[] w : wrong) {
            Check.refused("ask(" + w[0] + ", " + w[1] + ", " + w[2] + ")", IllegalArgumentException.class,
                    () -> x.ask(w[0], w[1], (int) w[2]));
        }
    }

    private static void windows() {
        Check.sentence("window k has the times from + k * width up to before from + (k + 1) * width");
        WindowTables x = new WindowTables();
        Check.series(x, "a=1");
        long[] times = {99, 100, 109, 110, 119, 120, 739, 740};
        for (int k = 0; k < times.length; k++) {
            x.append(0, times[k], 1L << k);
        }
        is(x, "sum({})", 100, 10, 1, ": 6");
        is(x, "sum({})", 100, 10, 2, ": 6 24");
        is(x, "sum({})", 100, 10, 64, ": 6 24 32" + " .".repeat(60) + " 64");
        is(x, "sum({})", 99, 1, 3, ": 1 2 .");
        is(x, "sum({})", 110, 630, 1, ": 120");
        is(x, "sum({})", 110, 631, 1, ": 248");
        is(x, "sum({})", 741, MOST, 64, "");
        is(x, "sum({})", 0, 99, 1, "");
        is(x, "sum({})", 0, 100, 1, ": 1");
    }

    private static void windowsAtTheLastTime() {
        Check.sentence("the windows may go far beyond the last time");
        WindowTables x = new WindowTables();
        Check.series(x, "a=1");
        x.append(0, 0, 1);
        x.append(0, MOST - 1, 2);
        x.append(0, MOST, 4);
        is(x, "sum({})", 0, MOST, 1, ": 3");
        is(x, "sum({})", 0, MOST, 2, ": 3 4");
        is(x, "sum({})", 0, MOST, 64, ": 3 4" + " .".repeat(62));
        is(x, "sum({})", 1, MOST, 64, ": 6" + " .".repeat(63));
        is(x, "sum({})", MOST, MOST, 64, ": 4" + " .".repeat(63));
        is(x, "sum({})", MOST - 1, 1, 2, ": 2 4");
        is(x, "sum({})", MOST - 63, 1, 64, ":" + " .".repeat(62) + " 2 4");
        is(x, "sum({})", MOST - 64, 1, 64, ":" + " .".repeat(63) + " 2");
    }

    private static void matches() {
        Check.sentence("A series MATCHES, if for each match its value of that name .. is the text; is not; begins; does not");
        WindowTables x = with("a=b", "a=bc", "a=c", "z=1");
        is(x, "sum({a=\"b\"})", 0, 10, 1, ": 10");
        is(x, "sum({a!=\"b\"})", 0, 10, 1, ": 90");
        is(x, "sum({a^=\"b\"})", 0, 10, 1, ": 30");
        is(x, "sum({a!^\"b\"})", 0, 10, 1, ": 70");
        is(x, "sum({a^=\"bc\"})", 0, 10, 1, ": 20");
        is(x, "sum({a^=\"bcd\"})", 0, 10, 1, "");
        is(x, "sum({a!^\"bcd\"})", 0, 10, 1, ": 100");
        is(x, "sum({a^=\"c\"})", 0, 10, 1, ": 30");
        is(x, "sum({})", 0, 10, 1, ": 100");
        is(x, "sum({a^=\"b\",a!=\"b\"})", 0, 10, 1, ": 20");
        is(x, "sum({a^=\"b\",a=\"c\"})", 0, 10, 1, "");
        Check.sentence("(nothing, as if it were the text \"\", if it has no such label)");
        is(x, "sum({a=\"\"})", 0, 10, 1, ": 40");
        is(x, "sum({a!=\"\"})", 0, 10, 1, ": 60");
        is(x, "sum({a^=\"\"})", 0, 10, 1, ": 100");
        is(x, "sum({a!^\"\"})", 0, 10, 1, "");
        is(x, "sum({z=\"\"})", 0, 10, 1, ": 60");
        is(x, "sum({z^=\"1\"})", 0, 10, 1, ": 40");
        is(x, "sum({none=\"\",none!=\"x\",none!^\"x\"})", 0, 10, 1, ": 100");
        is(x, "sum({none=\"x\"})", 0, 10, 1, "");
        is(x, "sum({none^=\"x\"})", 0, 10, 1, "");
        Check.sentence("names and texts longer than a word match no label");
        WindowTables y = with(LONG + "=" + LONG);
        is(y, "sum({" + LONG + "=\"" + LONG + "\"})", 0, 10, 1, ": 10");
        is(y, "sum({" + LONG + "y=\"" + LONG + "\"})", 0, 10, 1, "");
        is(y, "sum({" + LONG + "=\"" + LONG + "y\"})", 0, 10, 1, "");
        is(y, "sum({" + LONG.substring(0, 23) + "=\"" + LONG + "\"})", 0, 10, 1, "");
        is(y, "sum by (" + LONG + "y) ({})", 0, 10, 1, ": 10");
    }

    private static void emptyRows() {
        Check.sentence("Rows with nothing in all cells are none");
        WindowTables x = with("a=1", "a=2", "a=3");
        is(x, "sum by (a) ({})", 1, 1, 3, "1: 10 . .; 2: . 20 .; 3: . . 30");
        is(x, "sum by (a) ({})", 2, 1, 2, "2: 20 .; 3: . 30");
        is(x, "sum by (a) ({})", 2, 1, 1, "2: 20");
        // Points behind the last window are in no row, that of their neighbours neither.
        is(x, "sum by (a) ({})", 1, 1, 1, "1: 10");
        is(x, "sum by (a) ({})", 0, 1, 2, "1: . 10");
        is(x, "sum by (a) ({})", 0, 1, 1, "");
        is(x, "sum by (a) ({})", 4, 1, 1, "");
        is(x, "sum by (a) ({}) / (sum by (a) ({}) - 20)", 0, 10, 1, "1: -1; 3: 3");
        is(x, "sum({a=\"4\"})", 0, 10, 1, "");
        is(new WindowTables(), "sum({})", 0, 10, 1, "");
        is(new WindowTables(), "sum by (a) ({})", 0, 10, 1, "");
        x.retain(3);
        is(x, "sum by (a) ({})", 0, 10, 1, "3: 30");
        x.delete(2, 3, 3);
        is(x, "sum by (a) ({})", 0, 10, 1, "");
    }

    private static void numbers() {
        Check.sentence("A NUMBER is a table without names, with one row, that number in each cell");
        is(new WindowTables(), "7", 0, 1, 3, ": 7 7 7");
        is(new WindowTables(), "0", 0, 1, 1, ": 0");
        is("9223372036854775807", ": 9223372036854775807");
        is("000000000000000000000000000007", ": 7");
        is("4294967295", ": 4294967295");
        is("4294967296", ": 4294967296");
        is("2147483648", ": 2147483648");
        is("9223372036854775806", ": 9223372036854775806");
    }

    private static void groups() {
        Check.sentence("those that have the same values of these names (nothing, without the label) make a row together");
        WindowTables x = with("a=1", "a=1,b=2", "b=2", "a=1,b=2,c=3", "c=3", "a=2,b=1");
        is(x, "sum by (a) ({})", 0, 10, 1, ": 80; 1: 70; 2: 60");
        is(x, "sum by (b) ({})", 0, 10, 1, ": 60; 1: 60; 2: 90");
        is(x, "sum by (a,b) ({})", 0, 10, 1, ",: 50; ,2: 30; 1,: 10; 1,2: 60; 2,1: 60");
        is(x, "sum by (b,a) ({})", 0, 10, 1, ",: 50; ,1: 10; 1,2: 60; 2,: 30; 2,1: 60");
        is(x, "sum by (none) ({})", 0, 10, 1, ": 210");
        is(x, "sum by (a,b) ({c=\"3\"})", 0, 10, 1, ",: 50; 1,2: 40");
        WindowTables y = with("a=1,b=2,c=3,d=4,e=5,f=6", "a=1,b=2,c=3,d=4,e=5,f=7", "f=6");
        is(y, "sum by (f,e,d,c,b,a) ({})", 0, 10, 1, "6,,,,,: 30; 6,5,4,3,2,1: 10; 7,5,4,3,2,1: 20");
        WindowTables z = with("a=1,b=12", "a=11,b=2", "ab=112");
        is(z, "sum by (a,b) ({})", 0, 10, 1, ",: 30; 1,12: 10; 11,2: 20");
    }

    private static void sums() {
        Check.sentence("a number (64 bits with a sign, wrapping): sum: of the values. count: how many. least, most");
        WindowTables x = new WindowTables();
        Check.series(x, "a=1");
        Check.series(x, "a=2");
        x.append(0, 1, Long.MAX_VALUE);
        x.append(1, 1, 1);
        x.append(0, 2, LEAST_NUMBER);
        x.append(1, 2, -1);
        x.append(0, 3, 0);
        x.append(0, 4, LEAST_NUMBER);
        x.append(1, 4, LEAST_NUMBER);
        is(x, "sum({})", 1, 1, 4, ": " + LEAST_NUMBER + " 9223372036854775807 0 0");
        is(x, "count({})", 1, 1, 4, ": 2 2 1 2");
        is(x, "least({})", 1, 1, 4, ": 1 " + LEAST_NUMBER + " 0 " + LEAST_NUMBER);
        is(x, "most({})", 1, 1, 4, ": 9223372036854775807 -1 0 " + LEAST_NUMBER);
        Check.sentence("If there are no points, nothing");
        is(x, "sum({})", 3, 1, 3, ": 0 0 .");
        is(x, "count({})", 0, 1, 2, ": . 2");
        is(x, "least({})", 0, 1, 2, ": . 1");
        is(x, "most({})", 0, 1, 2, ": . 9223372036854775807");
        is(x, "first({})", 0, 1, 2, ": . 9223372036854775807");
        is(x, "latest({})", 4, 1, 2, ": " + LEAST_NUMBER + " .");
        is(x, "growth({})", 4, 1, 2, ": 0 .");
    }

    private static void firstAndLatest() {
        Check.sentence("first, latest: the value at the least time, the greatest time");
        WindowTables x = new WindowTables();
        Check.series(x, "a=9");
        Check.series(x, "a=1");
        Check.series(x, "a=5");
        x.append(0, 5, 50);
        x.append(1, 4, 41);
        x.append(2, 6, 62);
        // The first question of an object may be of either kind.
        is(x, "latest({})", 0, 10, 1, ": 62");
        is(x, "first({})", 0, 10, 1, ": 41");
        is(x, "first({})", 5, 10, 1, ": 50");
        is(x, "latest({})", 0, 6, 1, ": 50");
        Check.sentence("(of several the one of the series with the least number)");
        x.append(0, 7, 70);
        x.append(2, 7, 72);
        x.append(1, 7, 71);
        is(x, "first({})", 7, 1, 1, ": 70");
        is(x, "latest({})", 0, 10, 1, ": 70");
        is(x, "first({a!=\"9\"})", 7, 1, 1, ": 71");
        is(x, "latest({a!=\"9\"})", 0, 10, 1, ": 71");
        x.delete(0, 7, 7);
        is(x, "latest({})", 0, 10, 1, ": 71");
        is(x, "first({})", 7, 1, 1, ": 71");
        // A time of 0 and the last time are times like others.
        WindowTables y = new WindowTables();
        Check.series(y, "a=1");
        Check.series(y, "a=2");
        y.append(0, MOST, 1);
        y.append(1, 0, 2);
        is(y, "first({})", 0, MOST, 2, ": 2 1");
        is(y, "latest({}) + 0 * first({})", 0, MOST, 2, ": 2 1");
    }

    private static void growth() {
        Check.sentence("growth: its value less v, if v .. is not above it, else its value alone");
        WindowTables x = new WindowTables();
        Check.series(x, "a=1");
        long[] values = {5, 5, 6, 5, 0, -1, -1, 0, Long.MAX_VALUE, LEAST_NUMBER, Long.MAX_VALUE, -1, LEAST_NUMBER};
        for (int k = 0; k < values.length; k++) {
            x.append(0, k, values[k]);
        }
        is(x, "growth({})", 0, 1, 13, ": . 0 1 5 0 -1 0 1 9223372036854775807 " + LEAST_NUMBER + " -1 -1 "
                + LEAST_NUMBER);
        is(x, "growth({})", 1, 4, 2, ": 6 9223372036854775807");
        is(x, "growth({})", 8, 2, 1, ": -1");
        is(x, "growth({})", 9, 2, 1, ": 9223372036854775807");
    }

    private static void growthBefore() {
        Check.sentence("growth: the value of the point before it in its series (any that is seen, in whatever window)");
        WindowTables x = new WindowTables();
        Check.series(x, "a=1");
        Check.series(x, "a=2");
        x.append(0, 10, 1);
        x.append(1, 15, 1000);
        x.append(0, 20, 3);
        x.append(0, 30, 6);
        is(x, "growth({})", 30, 1, 1, ": 3");
        is(x, "growth({})", 10, 21, 1, ": 5");
        x.pack();
        is(x, "growth({})", 30, 1, 1, ": 3");
        x.append(0, 40, 10);
        is(x, "growth({})", 40, 1, 1, ": 4");
        x.delete(0, 30, 30);
        is(x, "growth({})", 40, 1, 1, ": 7");
        x.delete(0, 20, 20);
        is(x, "growth({})", 40, 1, 1, ": 9");
        Check.sentence("growth: a point with none before it is left out; If there are no points but such, nothing");
        is(x, "growth by (a) ({})", 0, 100, 1, "1: 9");
        is(x, "growth by (a) ({})", 0, 20, 1, "");
        is(x, "growth({a=\"2\"})", 0, 100, 1, "");
        x.retain(11);
        is(x, "growth({})", 0, 100, 1, "");
        is(x, "count by (a) ({})", 0, 100, 1, "1: 1; 2: 1");
    }

    private static void orderOfRows() {
        Check.sentence("Rows stand by their texts, the first name first (byte by byte, a beginning before what goes on)");
        WindowTables x = with("a=b", "a=ab", "a=a", "a=a!", "a=~", "a=!", "b=x", "a=B", "a=" + LONG, "a=aa");
        is(x, "sum by (a) ({})", 0, 20, 1, ": 70; !: 60; B: 80; a: 30; a!: 40; aa: 100; ab: 20; " + LONG
                + ": 90; b: 10; ~: 50");
        WindowTables y = with("a=2,b=1", "a=1,b=2", "a=1,b=1", "a=1", "b=1", "a=11,b=0");
        is(y, "sum by (a,b) ({})", 0, 20, 1, ",1: 50; 1,: 40; 1,1: 30; 1,2: 20; 11,0: 60; 2,1: 10");
        is(y, "sum by (b,a) ({})", 0, 20, 1, ",1: 40; 0,11: 60; 1,: 50; 1,1: 30; 1,2: 10; 2,1: 20");
    }

    private static void together() {
        Check.sentence("the same names in the same order: then rows with the same texts make a row");
        WindowTables x = with("a=1", "a=2", "a=3,b=1");
        is(x, "sum by (a) ({}) + sum by (a) ({})", 0, 10, 1, "1: 20; 2: 40; 3: 60");
        is(x, "sum by (a) ({a!=\"1\"}) - sum by (a) ({a!=\"3\"})", 0, 10, 1, "2: 0");
        is(x, "sum by (a) ({a=\"1\"}) - sum by (a) ({a=\"2\"})", 0, 10, 1, "");
        is(x, "sum({}) - sum({a=\"1\"})", 0, 10, 1, ": 50");
        Check.sentence("or when one of them has no names: its row goes with each one of the other");
        is(x, "sum by (a) ({}) - 1", 0, 10, 1, "1: 9; 2: 19; 3: 29");
        is(x, "100 - sum by (a) ({})", 0, 10, 1, "1: 90; 2: 80; 3: 70");
        is(x, "100 / sum by (a) ({})", 0, 10, 1, "1: 10; 2: 5; 3: 3");
        is(x, "100 % sum by (a) ({})", 0, 10, 1, "1: 0; 2: 0; 3: 10");
        is(x, "sum by (a) ({}) % 100 / 7", 0, 10, 1, "1: 1; 2: 2; 3: 4");
        is(x, "sum({}) - sum by (a) ({})", 2, 1, 2, "2: 0 .; 3: . 0");
        is(x, "sum({a=\"2\"}) - sum by (a) ({})", 1, 1, 3, "2: . 0 .");
        Check.due("the names are the other's", x.names(), 1);
        Check.sentence("(if it has none, there is none)");
        is(x, "sum({a=\"9\"}) + sum by (a) ({})", 0, 10, 1, "");
        Check.due("but names", x.names(), 1);
        is(x, "sum by (a) ({}) + sum({a=\"9\"})", 0, 10, 1, "");
        is(x, "sum by (a) ({a=\"9\"}) + 1", 0, 10, 1, "");
        is(x, "1 + sum by (a) ({a=\"9\"})", 0, 10, 1, "");
        Check.due("but names", x.names(), 1);
        is(x, "sum({a=\"9\"}) + 1", 0, 10, 1, "");
        is(x, "-sum({a=\"9\"})", 0, 10, 1, "");
    }

    private static void wrapping() {
        Check.sentence("+ and - and * wrap");
        is("9223372036854775807 + 1", ": " + LEAST_NUMBER);
        is(LEAST + " - 1", ": 9223372036854775807");
        is(LEAST + " + " + LEAST, ": 0");
        is("9223372036854775807 * 2", ": -2");
        is(LEAST + " * -1", ": " + LEAST_NUMBER);
        is("4294967296 * 4294967296", ": 0");
        Check.sentence("/ is cut towards 0, % is its rest");
        is("7 / 2", ": 3");
        is("-7 / 2", ": -3");
        is("7 / -2", ": -3");
        is("-7 / -2", ": 3");
        is("7 % 2", ": 1");
        is("-7 % 2", ": -1");
        is("7 % -2", ": 1");
        is("-7 % -2", ": -1");
        is("1 / 9223372036854775807", ": 0");
        is("-1 / " + LEAST, ": 0");
        is("-1 % " + LEAST, ": -1");
        is(LEAST + " / 1", ": " + LEAST_NUMBER);
        is("0 / -5", ": 0");
        Check.sentence("(the least number / -1 wraps, too: it is that number, its rest 0)");
        is(LEAST + " / -1", ": " + LEAST_NUMBER);
        is(LEAST + " % -1", ": 0");
        Check.sentence("- before a table turns all numbers round");
        is("-5", ": -5");
        is("--5", ": 5");
        is("-0", ": 0");
        is("-" + LEAST, ": " + LEAST_NUMBER);
        is("- 2 * -3", ": 6");
        is("-2 - -3", ": 1");
        is("-(2 - 3)", ": 1");
        is(with("a=1", "a=2"), "-sum by (a) ({})", 1, 1, 2, "1: -10 .; 2: . -20");
        Check.sentence("exp = term { + term | - term }. term = factor { * factor | / factor | % factor }");
        is("1 - 2 - 3", ": -4");
        is("1 - (2 - 3)", ": 2");
        is("100 / 10 / 5", ": 2");
        is("100 / (10 / 5)", ": 50");
        is("7 % 4 * 2", ": 6");
        is("7 * 4 % 5", ": 3");
        is("1 + 2 * 3", ": 7");
        is("(1 + 2) * 3", ": 9");
        is("10 - 6 / 2", ": 7");
        is("10 - 7 % 4", ": 7");
    }

    private static void nothings() {
        Check.sentence("with nothing, or / and % by 0, there is nothing");
        is("1 / 0", "");
        is("1 % 0", "");
        is("0 / 0", "");
        is("0 % 0", "");
        is(LEAST + " / 0", "");
        is("0 * (1 / 0)", "");
        is("1 / 0 - 1 / 0", "");
        is("-(1 / 0)", "");
        is("0 / 1", ": 0");
        is("0 % 1", ": 0");
        WindowTables x = with("a=1", "a=2", "b=1");
        for (char sign : "+-*/%".toCharArray()) {
            is(x, "sum({}) " + sign + " first({})", 4, 1, 1, "");
            is(x, "1 " + sign + " first({})", 4, 1, 2, "");
            is(x, "first({}) " + sign + " 1", 4, 1, 2, "");
        }
        is(x, "sum({}) * 0", 0, 1, 5, ": . 0 0 0 .");
        is(x, "60 / (sum({}) - 20)", 0, 1, 5, ": . -6 . 6 .");
        is(x, "60 % (sum({}) - 20)", 0, 1, 5, ": . 0 . 0 .");
        is(x, "sum({}) - growth({})", 0, 1, 5, "");
        is(x, "-sum({})", 0, 1, 5, ": . -10 -20 -30 .");
    }

    private static void replacing() {
        Check.sentence("11 ask: its table takes the place of the one before; how many rows it has");
        WindowTables x = with("a=1,b=1", "a=2,b=1", "a=3,b=2");
        Check.due("three rows", Check.ask(x, "sum by (a) ({})", 0, 10, 64), 3);
        Check.due("the last cell", x.cell(2, 0), 30);
        Check.due("two rows", Check.ask(x, "count by (b) ({})", 0, 10, 2), 2);
        Check.due("its rows", Check.table(x, 2, 2), "1: 2 .; 2: 1 .");
        Check.refused("the third row is gone", IndexOutOfBoundsException.class, () -> x.cell(2, 0));
        Check.refused("the third window is gone", IndexOutOfBoundsException.class, () -> x.cell(0, 2));
        Check.due("no rows", Check.ask(x, "count by (b) ({})", 100, 10, 2), 0);
        Check.refused("both rows are gone", IndexOutOfBoundsException.class, () -> x.text(0, 0, 0));
        Check.due("one row", Check.ask(x, "8", 100, 10, 1), 1);
        Check.due("its cell", x.cell(0, 0), 8);
        Check.refused("the tape is empty then", IllegalArgumentException.class, () -> Check.end(x, 1));
        x.append(2, 50, 5);
        x.retain(60);
        Check.series(x, "c=9");
        Check.due("it stays what it was", x.cell(0, 0), 8);
    }

    private static void names() {
        Check.sentence("12 names: How many names the table has; NONE without one");
        WindowTables x = with("a=1");
        Check.due("before a question", x.names(), NONE);
        Check.ask(x, "1", 0, 10, 1);
        Check.due("of a number", x.names(), 0);
        Check.ask(x, "sum({})", 0, 10, 1);
        Check.due("of a function without by", x.names(), 0);
        Check.ask(x, "sum by (a,b,c,d,e,f) ({})", 0, 10, 1);
        Check.due("six", x.names(), 6);
        Check.ask(x, "1 - 2 * sum by (a,b) ({})", 0, 10, 1);
        Check.due("of an operand", x.names(), 2);
        Check.ask(x, "-sum by (z) ({a=\"2\"})", 0, 10, 1);
        Check.due("without rows", x.names(), 1);
        Check.ask(x, "sum by (z) ({a=\"2\"", 0, 10, 1);
        Check.due("after a fault", x.names(), NONE);
    }

    private static void texts() {
        Check.sentence("13 text: NONE when there is no such name, or byte");
        WindowTables x = with("a=bc,d=" + LONG, "a=e");
        Check.due("rows", Check.ask(x, "sum by (a,d) ({})", 0, 10, 1), 2);
        Check.due("byte 0", x.text(0, 0, 0), 'b');
        Check.due("byte 1", x.text(0, 0, 1), 'c');
        Check.due("byte 23", x.text(0, 1, 23), 'x');
        Check.due("of the second row", x.text(1, 0, 0), 'e');
        int[][] none = {{0, 0, 2}, {0, 0, -1}, {0, 1, 24}, {0, 2, 0}, {0, -1, 0}, {1, 1, 0}, {1, 0, 1},
            {0, 0, Integer.MAX_VALUE}, {0, 0, Integer.MIN_VALUE}, {0, Integer.MAX_VALUE, 0},
            {0, Integer.MIN_VALUE, 0}};
        for (int[] n : none) {
            Check.due("text(" + n[0] + ", " + n[1] + ", " + n[2] + ")", x.text(n[0], n[1], n[2]), NONE);
        }
        Check.refused("text(2, 0, 0)", IndexOutOfBoundsException.class, () -> x.text(2, 0, 0));
        Check.ask(x, "7", 0, 10, 1);
        Check.due("a row without names", x.text(0, 0, 0), NONE);
        Check.ask(x, "sum by (z) ({})", 0, 10, 1);
        Check.due("a row without the label", x.text(0, 0, 0), NONE);
    }

    private static void cells() {
        Check.sentence("14 isThere: Whether there is a number in a cell; 15 cell: The number in a cell; 0 for nothing");
        WindowTables x = with("a=1", "a=2");
        x.append(0, 5, 0);
        Check.due("rows", Check.ask(x, "sum by (a) ({})", 1, 1, 64), 2);
        boolean[] there = {true, false, false, false, true, false};
        long[] numbers = {10, 0, 0, 0, 0, 0};
        for (int w = 0; w < there.length; w++) {
            Check.due("isThere(0, " + w + ")", x.isThere(0, w), there[w]);
            Check.due("cell(0, " + w + ")", x.cell(0, w), numbers[w]);
        }
        Check.due("isThere(1, 1)", x.isThere(1, 1), true);
        Check.due("cell(1, 1)", x.cell(1, 1), 20);
        Check.due("isThere(1, 63)", x.isThere(1, 63), false);
        Check.due("cell(1, 63)", x.cell(1, 63), 0);
        // What stood in a cell of an earlier table is not seen behind nothing.
        Check.ask(x, "7 * sum by (a) ({}) / (sum by (a) ({}) - 10)", 1, 1, 2);
        Check.due("the rows that are left", Check.table(x, 1, 2), "2: . 14");
        Check.due("isThere(0, 0)", x.isThere(0, 0), false);
        Check.due("cell(0, 0)", x.cell(0, 0), 0);
    }

    private static void packedOrNot() {
        Check.sentence("points can be packed .. which no answer shows but by what is gone");
        String[] questions = {"sum by (a) ({})", "count({})", "first({})", "latest({})", "growth by (a) ({})",
            "least({})", "most({})"};
        StringBuilder[] answers = {new StringBuilder(), new StringBuilder(), new StringBuilder()};
        for (int often = 0; often < answers.length; often++) {
            WindowTables x = new WindowTables();
            Check.series(x, "a=1");
            Check.series(x, "a=2");
            for (int t = 0; t < 20; t++) {
                x.append(t % 2, t, t * 7 % 5);
                if (often == 1 || often == 2 && t % 3 == 0) {
                    x.pack();
                }
            }
            x.delete(0, 3, 9);
            x.retain(2);
            for (String question : questions) {
                answers[often].append(Check.answered(x, question, 0, 3, 8)).append('|');
            }
        }
        Check.due("packed each time", answers[1].toString(), answers[0].toString());
        Check.due("packed at times", answers[2].toString(), answers[0].toString());
    }

    private static void greatestTables() {
        Check.sentence("256 series and 64 windows: the greatest table");
        WindowTables x = new WindowTables();
        for (int s = 0; s < 256; s++) {
            int mixed = s * 77 % 256;
            Check.series(x, "a=" + (char) ('a' + mixed / 16) + (char) ('a' + mixed % 16));
            x.append(s, mixed % 64, mixed);
            x.append(s, 64, 1);
        }
        String[] funcs = {"first", "latest", "sum", "least", "most"};
        for (String func : funcs) {
            Check.due(func, Check.ask(x, func + " by (a) ({}) * 1 + 0", 0, 1, 64), 256);
            for (int row = 0; row < 256; row++) {
                String text = new String(new char[] {(char) x.text(row, 0, 0), (char) x.text(row, 0, 1)});
                Check.due("text of row " + row, text,
                        "" + (char) ('a' + row / 16) + (char) ('a' + row % 16));
                Check.due("row " + row, x.cell(row, row % 64), row);
                Check.due("row " + row, x.isThere(row, row % 64), true);
                Check.due("row " + row, x.isThere(row, (row + 1) % 64), false);
            }
            Check.refused("row 256", IndexOutOfBoundsException.class, () -> x.cell(256, 0));
        }
    }

    /** As many tables wait at once as can: a left side of + and one of * at each of the eight brackets. */
    private static void deepestQuestion() {
        Check.sentence("more than 8 of these are open: 8 are not, and all of them are worked off");
        WindowTables x = with("a=1", "a=2");
        StringBuilder question = new StringBuilder();
        long one = 1 + 10 * 2;
        long two = 1 + 20 * 2;
        for (int k = 0; k < 8; k++) {
            question.append("1+sum by(a)({})*(");
            one = 1 + 10 * one;
            two = 1 + 20 * two;
        }
        question.append("1+sum by(a)({})*2").append(")".repeat(8));
        is(x, question.toString(), 0, 10, 1, "1: " + one + "; 2: " + two);
        is(x, "--------sum by(a)({})", 0, 10, 1, "1: 10; 2: 20");
        is(x, "-------sum by(a)({})", 0, 10, 1, "1: -10; 2: -20");
    }

    private static void longestQuestion() {
        Check.sentence("65536 bytes of a question are one");
        WindowTables x = with("a=1", "a=2");
        is(x, "1" + "+1".repeat(32767) + " ", 0, 1, 1, ": 32768");
        is(x, "1" + "-1".repeat(32767) + "+", 0, 1, 1, "fault 2 at 65536");
        is(x, "1" + "*1".repeat(32766) + "-" + "2 ", 0, 1, 1, ": -1");
        is(x, "sum({})" + "+sum({})".repeat(8191) + " ", 0, 10, 1, ": " + 30 * 8192);
        String match = "b=\"\"";
        is(x, "sum({" + match + ("," + match).repeat(10920) + "})", 0, 10, 1, ": 30");
        is(x, " ".repeat(65535) + "7", 0, 1, 1, ": 7");
        is(x, "0".repeat(65535) + "7", 0, 1, 1, ": 7");
        is(x, "sum({a=\"" + "x".repeat(65525) + "\"})", 0, 10, 1, "");
        is(x, "sum({a=\"" + "x".repeat(65528), 0, 10, 1, "fault 1 at 7");
    }
}
