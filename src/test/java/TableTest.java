/** Promises 11 to 15: what the table of a question has. */
public final class TableTest {
    private static final long MOST = 1099511627775L;

    public static void main(String[] args) {
        functions();
        ties();
        growth();
        windows();
        matches();
        groups();
        orderOfRows();
        arithmetic();
        nothings();
        joining();
        reading();
        tableStays();
        deepQuestion();
        longQuestion();
        Check.finish("TableTest");
    }

    private static WindowTables hosts() {
        WindowTables x = new WindowTables();
        Check.series(x, "host=web1,job=api");
        Check.series(x, "host=web2,job=api");
        Check.series(x, "host=db1,job=store");
        Check.series(x, "job=store");
        long[][] points = {
            {0, 10, 100}, {1, 10, 7}, {0, 20, 150}, {1, 25, 9}, {2, 30, -5}, {0, 70, 20}, {3, 31, 8}, {3, 75, -9}
        };
        for (long[] p : points) {
            x.append((int) p[0], p[1], p[2]);
        }
        return x;
    }

    private static void is(WindowTables x, String question, long from, long width, int n, String want) {
        Check.due(question, Check.answered(x, question, from, width, n), want);
    }

    private static void functions() {
        WindowTables x = hosts();
        is(x, "sum by (job) ({})", 0, 60, 2, "api: 266 20; store: 3 -9");
        is(x, "count by (job) ({})", 0, 60, 2, "api: 4 1; store: 2 1");
        is(x, "least by (job) ({})", 0, 60, 2, "api: 7 20; store: -5 -9");
        is(x, "most by (job) ({})", 0, 60, 2, "api: 150 20; store: 8 -9");
        is(x, "first by (job) ({})", 0, 60, 2, "api: 100 20; store: -5 -9");
        is(x, "latest by (job) ({})", 0, 60, 2, "api: 9 20; store: 8 -9");
        is(x, "growth by (job) ({})", 0, 60, 2, "api: 52 20; store: . -9");
        is(x, "sum({})", 0, 60, 2, ": 269 11");
        is(x, "count({})", 0, 60, 3, ": 6 2 .");
        is(x, "most({job=\"store\"})", 30, 1, 2, ": -5 8");
        is(hosts(), "latest by (job) ({})", 0, 60, 2, "api: 9 20; store: 8 -9");
    }

    private static void ties() {
        WindowTables x = new WindowTables();
        Check.series(x, "z=1");
        Check.series(x, "a=1");
        x.append(1, 5, 11);
        x.append(0, 5, 10);
        x.append(1, 7, 21);
        x.append(0, 7, 20);
        is(x, "first({})", 0, 10, 1, ": 10");
        is(x, "latest({})", 0, 10, 1, ": 20");
        x.append(1, 8, 31);
        is(x, "latest({})", 0, 10, 1, ": 31");
        x.delete(0, 5, 5);
        is(x, "first({})", 0, 10, 1, ": 11");
        // Zero is a time and a value like others.
        WindowTables y = new WindowTables();
        Check.series(y, "a=1");
        Check.series(y, "a=2");
        y.append(0, 3, 0);
        y.append(1, 0, 4);
        is(y, "first({})", 0, 10, 1, ": 4");
        is(y, "latest({})", 0, 10, 1, ": 0");
    }

    private static void growth() {
        WindowTables x = new WindowTables();
        Check.series(x, "a=1");
        Check.series(x, "a=2");
        long[] values = {10, 10, 15, 4, 4, -3, 0, Long.MAX_VALUE, Long.MIN_VALUE};
        for (int i = 0; i < values.length; i++) {
            x.append(0, 10 * i, values[i]);
        }
        is(x, "growth({})", 0, 10, 9, ": . 0 5 4 0 -3 3 " + Long.MAX_VALUE + " " + Long.MIN_VALUE);
        is(x, "growth({})", 25, 20, 2, ": 4 0");
        x.append(1, 35, 100);
        is(x, "growth by (a) ({})", 30, 10, 1, "1: 4");
        x.append(1, 36, 101);
        is(x, "growth by (a) ({})", 30, 10, 1, "1: 4; 2: 1");
        is(x, "growth({})", 30, 10, 1, ": 5");
        x.delete(0, 20, 20);
        is(x, "growth({a=\"1\"})", 0, 10, 5, ": . 0 . 4 0");
        x.delete(0, 0, 20);
        is(x, "growth({a=\"1\"})", 0, 10, 5, ": . . . . 0");
        x.pack();
        x.retain(50);
        is(x, "growth({a=\"1\"})", 0, 10, 7, ": . . . . . . 3");
        WindowTables y = new WindowTables();
        Check.series(y, "a=1");
        y.append(0, 1, Long.MIN_VALUE);
        y.append(0, 2, Long.MAX_VALUE);
        is(y, "growth({})", 2, 1, 1, ": -1");
    }

    private static void windows() {
        WindowTables x = new WindowTables();
        Check.series(x, "a=1");
        for (int t = 10; t < 40; t++) {
            x.append(0, t, 1);
        }
        x.append(0, MOST, 7);
        is(x, "count({})", 10, 10, 3, ": 10 10 10");
        is(x, "count({})", 9, 10, 4, ": 9 10 10 1");
        is(x, "count({})", 11, 10, 2, ": 10 10");
        is(x, "count({})", 40, 10, 4, "");
        is(x, "sum({})", MOST, 1, 1, ": 7");
        is(x, "sum({})", MOST - 1, 1, 2, ": . 7");
        is(x, "sum({})", MOST - 63, 1, 64, ":" + " .".repeat(63) + " 7");
        is(x, "sum({})", MOST - 64, 1, 64, "");
        is(x, "sum({})", 0, MOST, 2, ": 30 7");
        is(x, "sum({})", MOST, MOST, 64, ": 7" + " .".repeat(63));
        is(x, "sum({})", 39, 1, 64, ": 1" + " .".repeat(63));
    }

    private static void matches() {
        WindowTables x = hosts();
        is(x, "count({job=\"api\"})", 0, 100, 1, ": 5");
        is(x, "count({job!=\"api\"})", 0, 100, 1, ": 3");
        is(x, "count({host^=\"web\"})", 0, 100, 1, ": 5");
        is(x, "count({host!^\"web\"})", 0, 100, 1, ": 3");
        is(x, "count({host=\"\"})", 0, 100, 1, ": 2");
        is(x, "count({host!=\"\"})", 0, 100, 1, ": 6");
        is(x, "count({host^=\"\"})", 0, 100, 1, ": 8");
        is(x, "count({host!^\"\"})", 0, 100, 1, "");
        is(x, "count({nohost=\"\"})", 0, 100, 1, ": 8");
        is(x, "count({nohost!=\"\"})", 0, 100, 1, "");
        is(x, "count({nohost!=\"x\"})", 0, 100, 1, ": 8");
        is(x, "count({nohost^=\"x\"})", 0, 100, 1, "");
        is(x, "count({nohost!^\"x\"})", 0, 100, 1, ": 8");
        is(x, "count({hos=\"web1\"})", 0, 100, 1, "");
        is(x, "count({hostt=\"web1\"})", 0, 100, 1, "");
        is(x, "count({host=\"web\"})", 0, 100, 1, "");
        is(x, "count({host=\"web11\"})", 0, 100, 1, "");
        is(x, "count({host^=\"web11\"})", 0, 100, 1, "");
        is(x, "count({host^=\"web1\"})", 0, 100, 1, ": 3");
        is(x, "count({host!^\"web1\"})", 0, 100, 1, ": 5");
        is(x, "count({host^=\"eb\"})", 0, 100, 1, "");
        is(x, "count({job=\"api\",host=\"web2\"})", 0, 100, 1, ": 2");
        is(x, "count({job=\"api\",host=\"db1\"})", 0, 100, 1, "");
        is(x, "count({host^=\"web\",host!=\"web1\"})", 0, 100, 1, ": 2");
        is(x, "count({job=\"api\",job=\"store\"})", 0, 100, 1, "");
        Check.series(x, "_0aZ9=x,A.b=y");
        x.append(4, 200, 5);
        is(x, "sum by (_0aZ9) ({_0aZ9=\"x\"})", 200, 1, 1, "x: 5");
    }

    private static void groups() {
        WindowTables x = hosts();
        is(x, "count by (host) ({})", 0, 100, 1, ": 2; db1: 1; web1: 3; web2: 2");
        is(x, "count by (job,host) ({})", 0, 100, 1, "api,web1: 3; api,web2: 2; store,: 2; store,db1: 1");
        is(x, "count by (host,job) ({})", 0, 100, 1, ",store: 2; db1,store: 1; web1,api: 3; web2,api: 2");
        is(x, "count by (none) ({})", 0, 100, 1, ": 8");
        is(x, "count by (none,job) ({})", 0, 100, 1, ",api: 5; ,store: 3");
        is(x, "count by (job) ({host!=\"\"})", 0, 100, 1, "api: 5; store: 1");
        is(x, "count by (job) ({host=\"web2\"})", 0, 100, 1, "api: 2");
        // A row whose cells are all nothing is none, and the others take its place.
        is(x, "count by (host) ({})", 70, 10, 1, ": 1; web1: 1");
        is(x, "count by (host) ({})", 25, 5, 2, ": . 1; db1: . 1; web2: 1 .");
        is(x, "count by (host) ({host!=\"\"})", 30, 40, 2, "db1: 1 .; web1: . 1");
    }

    private static void orderOfRows() {
        WindowTables x = new WindowTables();
        String[] values = {"b", "a", "aa", "a!", "~", "!", "a~", "B", "10", "9", "abcdefghijklmnopqrstuvwx",
            "abcdefghijklmnopqrstuvw"};
        for (int s = 0; s < values.length; s++) {
            Check.series(x, "v=" + values[s]);
            x.append(s, s, s);
        }
        Check.series(x, "w=1");
        x.append(values.length, 0, 99);
        is(x, "sum by (v) ({})", 0, 100, 1, ": 99; !: 5; 10: 8; 9: 9; B: 7; a: 1; a!: 3; aa: 2; "
                + "abcdefghijklmnopqrstuvw: 11; abcdefghijklmnopqrstuvwx: 10; a~: 6; b: 0; ~: 4");
        WindowTables y = new WindowTables();
        for (int s = 0; s < 256; s++) {
            int mixed = s * 77 % 256;
            Check.series(y, "a=" + (char) ('a' + mixed / 16) + ",b=" + (char) ('a' + mixed % 16));
            y.append(s, 1, mixed);
        }
        Check.due("256 rows", Check.ask(y, "sum by (a,b) ({})", 0, 1, 64), 256);
        for (int row = 0; row < 256; row++) {
            Check.due("row " + row, y.cell(row, 1), row);
            Check.due("row " + row, y.isThere(row, 63) ? 1 : 0, 0);
            Check.due("text " + row, y.text(row, 0, 0), 'a' + row / 16);
            Check.due("text " + row, y.text(row, 1, 0), 'a' + row % 16);
        }
        Check.due("turned", Check.ask(y, "sum by (b,a) ({})", 0, 1, 2), 256);
        Check.due("row 1", y.cell(1, 1), 16);
    }

    private static void arithmetic() {
        WindowTables x = new WindowTables();
        long least = Long.MIN_VALUE;
        is(x, "1 + 2 * 3 - -4", 0, 1, 2, ": 11 11");
        is(x, "10 - 4 - 3", 0, 1, 1, ": 3");
        is(x, "100 / 7 / 2", 0, 1, 1, ": 7");
        is(x, "100 / (7 / 2)", 0, 1, 1, ": 33");
        is(x, "2 * 17 % 5", 0, 1, 1, ": 4");
        is(x, "17 % 5 * 2", 0, 1, 1, ": 4");
        is(x, "-7 / 2", 0, 1, 1, ": -3");
        is(x, "7 / -2", 0, 1, 1, ": -3");
        is(x, "-7 % 2", 0, 1, 1, ": -1");
        is(x, "7 % -2", 0, 1, 1, ": 1");
        is(x, "--5", 0, 1, 1, ": 5");
        is(x, "-5 * -5", 0, 1, 1, ": 25");
        is(x, "-(2 + 3)", 0, 1, 1, ": -5");
        is(x, "-2 + 3", 0, 1, 1, ": 1");
        is(x, "9223372036854775807 + 1", 0, 1, 1, ": " + least);
        is(x, "-9223372036854775807 - 2", 0, 1, 1, ": 9223372036854775807");
        is(x, "9223372036854775807 * 9223372036854775807", 0, 1, 1, ": 1");
        is(x, "(-9223372036854775807 - 1) / -1", 0, 1, 1, ": " + least);
        is(x, "(-9223372036854775807 - 1) % -1", 0, 1, 1, ": 0");
        is(x, "-(-9223372036854775807 - 1)", 0, 1, 1, ": " + least);
        is(x, "4294967296 + 4294967295", 0, 1, 1, ": 8589934591");
        is(x, "2147483648", 0, 1, 1, ": 2147483648");
        is(x, "0", 0, 1, 1, ": 0");
    }

    private static void nothings() {
        WindowTables x = hosts();
        is(x, "1 / 0", 0, 1, 1, "");
        Check.due("names of none", x.names(), 0);
        is(x, "1 % 0", 0, 1, 1, "");
        is(x, "0 / 0 + 1", 0, 1, 1, "");
        is(x, "0 * (1 / 0)", 0, 1, 1, "");
        is(x, "sum({job=\"none\"}) + 1", 0, 100, 2, "");
        is(x, "1 - sum({job=\"none\"})", 0, 100, 2, "");
        is(x, "-sum({})", 0, 60, 3, ": -269 -11 .");
        is(x, "-count by (host) ({})", 0, 100, 1, ": -2; db1: -1; web1: -3; web2: -2");
        is(x, "sum({}) * 0", 0, 60, 3, ": 0 0 .");
        is(x, "count({}) / (count({}) - 2)", 0, 60, 3, ": 1 . .");
        is(x, "count({}) % (count({}) - 2)", 0, 60, 3, ": 2 . .");
        is(x, "sum by (job) ({}) / 0", 0, 60, 2, "");
        Check.due("names of none", x.names(), 1);
        is(x, "10 / (count by (job) ({}) - 1)", 0, 60, 2, "api: 3 .; store: 10 .");
    }

    private static void joining() {
        WindowTables x = hosts();
        is(x, "sum by (job) ({}) / count by (job) ({})", 0, 60, 2, "api: 66 20; store: 1 -9");
        is(x, "sum by (host) ({job=\"api\"}) + sum by (host) ({host!=\"web1\"})", 0, 100, 1, "web2: 32");
        is(x, "sum by (host) ({job=\"api\"}) - 0 * sum by (host) ({host^=\"d\"})", 0, 100, 1, "");
        is(x, "100 * count by (job) ({}) / count({})", 0, 100, 1, "api: 62; store: 37");
        is(x, "count({}) - count by (job) ({})", 0, 60, 2, "api: 2 1; store: 4 1");
        is(x, "count by (job) ({}) - count({})", 0, 60, 2, "api: -2 -1; store: -4 -1");
        is(x, "1 + count({job=\"none\"}) + count by (job) ({})", 0, 60, 2, "");
        is(x, "(1 + 2) * (count by (job) ({}) + (1 - 1))", 0, 60, 1, "api: 12; store: 6");
        is(x, "-count by (host) ({}) + 1 - -count by (host) ({})", 0, 100, 1, ": 1; db1: 1; web1: 1; web2: 1");
        is(x, "count({host=\"db1\"}) + count by (job) ({})", 0, 10, 8, "store: . . . 3 . . . .");
        is(new WindowTables(), "1 + sum by (a) ({})", 0, 1, 1, "");
        is(new WindowTables(), "sum by (a) ({}) * 2", 0, 1, 1, "");
    }

    private static void reading() {
        WindowTables x = hosts();
        Check.due("rows", Check.ask(x, "sum by (job,host) ({})", 0, 60, 2), 4);
        Check.due("names()", x.names(), 2);
        Check.due("text(0, 0, 0)", x.text(0, 0, 0), 'a');
        Check.due("text(0, 0, 2)", x.text(0, 0, 2), 'i');
        Check.due("text(0, 0, 3)", x.text(0, 0, 3), WindowTables.NONE);
        Check.due("text(0, 0, -1)", x.text(0, 0, -1), WindowTables.NONE);
        Check.due("text(0, 0, most)", x.text(0, 0, Integer.MAX_VALUE), WindowTables.NONE);
        Check.due("text(0, 0, least)", x.text(0, 0, Integer.MIN_VALUE), WindowTables.NONE);
        Check.due("text(0, 2, 0)", x.text(0, 2, 0), WindowTables.NONE);
        Check.due("text(0, -1, 0)", x.text(0, -1, 0), WindowTables.NONE);
        Check.due("text(0, most, 0)", x.text(0, Integer.MAX_VALUE, 0), WindowTables.NONE);
        Check.due("text(2, 1, 0), a label that is not there", x.text(2, 1, 0), WindowTables.NONE);
        Check.refused("text(4, 0, 0)", IndexOutOfBoundsException.class, () -> x.text(4, 0, 0));
        Check.refused("text(-1, 0, 0)", IndexOutOfBoundsException.class, () -> x.text(-1, 0, 0));
        Check.refused("text(4, 9, -1)", IndexOutOfBoundsException.class, () -> x.text(4, 9, -1));
        Check.due("isThere(3, 1)", x.isThere(3, 1) ? 1 : 0, 0);
        Check.due("isThere(2, 1)", x.isThere(2, 1) ? 1 : 0, 1);
        Check.due("cell(3, 1)", x.cell(3, 1), 0);
        Check.due("cell(2, 1)", x.cell(2, 1), -9);
        int[][] none = {{4, 0}, {-1, 0}, {0, 2}, {0, -1}, {Integer.MAX_VALUE, 0}, {0, Integer.MAX_VALUE},
            {Integer.MIN_VALUE, Integer.MIN_VALUE}};
        for (int[] at : none) {
            Check.refused("isThere", IndexOutOfBoundsException.class, () -> x.isThere(at[0], at[1]) ? 1 : 0);
            Check.refused("cell", IndexOutOfBoundsException.class, () -> x.cell(at[0], at[1]));
        }
        Check.due("one row without names", Check.ask(x, "5", 0, 60, 2), 1);
        Check.due("no text", x.text(0, 0, 0), WindowTables.NONE);
        Check.refused("one row alone", IndexOutOfBoundsException.class, () -> x.cell(1, 0));
    }

    private static void tableStays() {
        WindowTables x = hosts();
        int rows = Check.ask(x, "sum by (job) ({})", 0, 60, 2);
        String table = Check.table(x, rows, 2);
        x.delete(0, 0, 100);
        x.pack();
        x.retain(1000);
        x.append(0, 2000, 1);
        Check.series(x, "job=a");
        Check.series(x, "job=?,job=");
        Check.feed(x, "1 2 3");
        Check.refused("ask", IllegalArgumentException.class, () -> x.ask(0, 0, 0));
        Check.due("the table is what it was", Check.table(x, rows, 2), table);
        Check.refused("and has no row more", IndexOutOfBoundsException.class, () -> x.cell(rows, 0));
    }

    /** As many tables as can wait at once: a left side of + and one of * at each of the eight brackets. */
    private static void deepQuestion() {
        WindowTables x = hosts();
        StringBuilder question = new StringBuilder();
        for (int k = 0; k < 8; k++) {
            question.append("1+count by(job)({})*(");
        }
        question.append("1+2*count by(job)({})").append(")".repeat(8));
        long api = 1 + 2 * 4;
        long store = 1 + 2 * 2;
        for (int k = 0; k < 8; k++) {
            api = 1 + 4 * api;
            store = 1 + 2 * store;
        }
        is(x, question.toString(), 0, 60, 1, "api: " + api + "; store: " + store);
    }

    private static void longQuestion() {
        WindowTables x = hosts();
        StringBuilder question = new StringBuilder("0");
        for (int k = 0; k < 1000; k++) {
            question.append("+count({job^=\"a\",host!=\"\"})*").append(k).append("-1");
        }
        is(x, question.toString(), 0, 60, 1, ": " + (4L * 999 * 1000 / 2 - 1000));
    }
}
