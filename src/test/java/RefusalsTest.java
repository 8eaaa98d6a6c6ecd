/**
 * Each call that the document refuses: what it throws, what comes first when several would do, and that nothing has
 * changed, the tape too. The sentences stand in the document's order.
 */
public final class RefusalsTest {
    private static final long MOST = 1099511627775L;
    private static final Class<IndexOutOfBoundsException> NO_SUCH = IndexOutOfBoundsException.class;
    private static final Class<IllegalArgumentException> WRONG = IllegalArgumentException.class;
    private static final Class<UnsupportedOperationException> TOO_MANY = UnsupportedOperationException.class;

    public static void main(String[] args) {
        whatTheyAreMadeWith();
        feeds();
        ends();
        series();
        faults();
        letters();
        appends();
        appendsWithAFullHead();
        bulks();
        deletes();
        deletesWithAllScars();
        retains();
        asks();
        rowsAndWindows();
        lasts();
        packs();
        counts();
        Check.finish("RefusalsTest");
    }

    /**
     * Three series (of s=0 some points in a parcel, some deleted, some below the horizon 12, some in the head), a table
     * with two names, two rows and three windows, the fault 8 at 4, and the start of a series on the tape.
     */
    private static void lived(WindowTables x) {
        Check.series(x, "s=0");
        Check.series(x, "s=1,t=x");
        Check.series(x, "s=2");
        for (int time = 10; time <= 30; time += 10) {
            x.append(0, time, time);
        }
        x.append(1, 15, -7);
        x.pack();
        x.append(0, 40, 4);
        x.append(0, 50, 5);
        x.append(1, 45, 6);
        x.delete(0, 20, 20);
        x.delete(0, 50, 50);
        x.retain(12);
        Check.ask(x, "sum by (s,t) ({})", 12, 20, 3);
        Check.series(x, "s=0,s=");
        Check.feed(x, "u=v");
    }

    private static void livedWithPoints(WindowTables x) {
        lived(x);
        x.end(0);
        Check.feed(x, Check.point(60, 6) + Check.point(61, Long.MIN_VALUE) + "left over");
    }

    private static void livedWithQuestion(WindowTables x) {
        lived(x);
        x.end(0);
        Check.feed(x, "count by (s) ({}) * 2");
    }

    private static void livedWithFaultyQuestion(WindowTables x) {
        lived(x);
        x.end(0);
        Check.ask(x, "1 + ?", 0, 1, 1);
        Check.feed(x, "count by (s) ({}) * 2");
    }

    private static void newOne(WindowTables x) {
        Check.due("a new one has no series", x.count(0), 0);
    }

    private static WindowTables made(Twins.Making making) {
        WindowTables x = new WindowTables();
        making.make(x);
        return x;
    }

    /** If the objects had nothing to lose, the refused calls would show nothing. */
    private static void whatTheyAreMadeWith() {
        WindowTables x = made(RefusalsTest::lived);
        int[] due = {3, 2, 1, 1, 4};
        for (int what = 0; what < due.length; what++) {
            Check.due("count(" + what + ")", x.count(what), due[what]);
        }
        Check.due("the fault", x.fault(0), 8);
        Check.due("its place", x.fault(1), 4);
        Check.due("the table", Check.table(x, 2, 3), "0,: 30 4 .; 1,x: -7 6 .");
        Check.due("the series on the tape", x.series(), 3);
        x = made(RefusalsTest::livedWithFaultyQuestion);
        Check.due("the fault of a question", x.fault(0), 1);
        Check.due("no table", x.names(), WindowTables.NONE);
                x = made(RefusalsTest::fullHead);
        Check.due("a full head", x.count(1), 4096);
        x = made(RefusalsTest::allScars);
        Check.due("all scars", x.count(3), 64);
        Check.due("points of all scars", x.count(4), 5);
        x = made(RefusalsTest::allParcels);
        Check.due("all parcels", x.count(2), 32);
        x = made(RefusalsTest::allSeries);
        Check.due("all series", x.count(0), 256);
    }

    private static void feeds() {
        Check.sentence("2 feed: UnsupportedOperationException: they would be more than 65536");
        int[] tooLong = {65517, 65520, 65535, 65536};
        for (int many : tooLong) {
            String tape = " ".repeat(many - 1) + "5";
            Twins.refused("feed behind " + many, TOO_MANY, x -> Check.feed(x, tape), x -> x.feed(1, 2, 3, 4, 5));
        }
    }

    private static void ends() {
        Check.sentence("3 end: IllegalArgumentException: n is below 0, or it has not so many");
        int[] wrong = {-1, Integer.MIN_VALUE, 4, 20, 65536, Integer.MAX_VALUE};
        for (int n : wrong) {
            Twins.refused("end(" + n + ") of 3", WRONG, RefusalsTest::lived, x -> Check.end(x, n));
        }
        Twins.refused("end(1) of 0", WRONG, RefusalsTest::newOne, x -> Check.end(x, 1));
        Twins.refused("end(-1) of 0", WRONG, RefusalsTest::newOne, x -> Check.end(x, -1));
        Twins.refused("end(1) behind a question", WRONG, x -> {
            livedWithQuestion(x);
            x.ask(0, 1, 1);
        }, x -> Check.end(x, 1));
    }

    private static void allSeries(WindowTables x) {
        for (int s = 0; s < 256; s++) {
            Check.series(x, "n=" + s);
        }
        Check.ask(x, "count by (n) ({}) + 1", 0, 1, 2);
        Check.series(x, "n=1,");
    }

    private static void series() {
        Check.sentence("4 series: UnsupportedOperationException: there are 256 (for one without a fault that is new)");
        Twins.refused("the 257th series", TOO_MANY, x -> {
            allSeries(x);
            Check.feed(x, "n=256");
        }, WindowTables::series);
        Twins.refused("one with more labels", TOO_MANY, x -> {
            allSeries(x);
            Check.feed(x, "m=1,n=1");
        }, WindowTables::series);
        WindowTables x = made(RefusalsTest::allSeries);
        Check.due("one with a fault", Check.series(x, "n=256,n="), WindowTables.NONE);
        Check.due("its code", x.fault(0), 8);
        Check.due("its place", x.fault(1), 6);
        Check.due("one that is there", Check.series(x, "n=255"), 255);
        Check.due("it has no fault", x.fault(0), 0);
    }

    private static void faults() {
        Check.sentence("5 fault: IndexOutOfBoundsException: there is no such what");
        int[] wrong = {-1, 2, 7, 8, Integer.MIN_VALUE, Integer.MAX_VALUE};
        for (int what : wrong) {
            Twins.refused("fault(" + what + ")", NO_SUCH, RefusalsTest::lived, x -> x.fault(what));
        }
        Twins.refused("fault(2) of a new one", NO_SUCH, RefusalsTest::newOne, x -> x.fault(2));
    }

    private static void noSuchSeries(String call, Twins.Making making, SeriesCall calling) {
        int[] none = {-1, 3, 256, Integer.MIN_VALUE, Integer.MAX_VALUE};
        for (int s : none) {
            Twins.refused(call + " of series " + s, NO_SUCH, making, x -> calling.call(x, s));
        }
        Twins.refused(call + " of series 0 of none", NO_SUCH, RefusalsTest::newOne, x -> calling.call(x, 0));
    }

    private interface SeriesCall {
        long call(WindowTables x, int s);
    }

    private static void letters() {
        Check.sentence("6 letter: IndexOutOfBoundsException (there is no such series)");
        noSuchSeries("letter 0", RefusalsTest::lived, (x, s) -> x.letter(s, 0));
        noSuchSeries("letter -1", RefusalsTest::lived, (x, s) -> x.letter(s, -1));
    }

    private static void appends() {
        Check.sentence("7 append: IndexOutOfBoundsException, before IllegalArgumentException");
        noSuchSeries("append", RefusalsTest::lived, (x, s) -> x.append(s, 60, 1));
        noSuchSeries("append of no time", RefusalsTest::lived, (x, s) -> x.append(s, -1, 1));
        Check.sentence("7 append: IllegalArgumentException: it is no time");
        long[] none = {-1, Long.MIN_VALUE, MOST + 1, Long.MAX_VALUE};
        for (long time : none) {
            Twins.refused("append at " + time, WRONG, RefusalsTest::lived, x -> x.append(0, time, 1));
            Twins.refused("append to an empty series at " + time, WRONG, RefusalsTest::lived,
                    x -> x.append(2, time, 1));
        }
        Check.sentence("7 append: IllegalArgumentException: not above the last one of the series");
        Twins.refused("append at the last time, which was deleted", WRONG, RefusalsTest::lived,
                x -> x.append(0, 50, 1));
        Twins.refused("append below the last time, which was deleted", WRONG, RefusalsTest::lived,
                x -> x.append(0, 49, 1));
        Twins.refused("append at the last time", WRONG, RefusalsTest::lived, x -> x.append(1, 45, 1));
        Twins.refused("append at a time that is free", WRONG, RefusalsTest::lived, x -> x.append(1, 44, 1));
        Check.sentence("7 append: IllegalArgumentException: or below the horizon");
        Twins.refused("append below the horizon", WRONG, RefusalsTest::lived, x -> x.append(2, 11, 1));
        Twins.refused("append at 0", WRONG, RefusalsTest::lived, x -> x.append(2, 0, 1));
    }

    /** 4096 points in the head, of which none is beyond the time 127. */
    private static void fullHead(WindowTables x) {
        for (int s = 0; s < 33; s++) {
            Check.series(x, "s=" + s);
        }
        x.append(0, 0, 1);
        x.pack();
        for (int k = 0; k < 4096; k++) {
            x.append(k / 126, 2 + k % 126, k);
        }
        Check.ask(x, "latest({})", 0, 64, 2);
        Check.feed(x, Check.point(127, 9));
    }

    private static void appendsWithAFullHead() {
        Check.sentence("7 append: UnsupportedOperationException: there are 4096 in it");
        Twins.refused("append of the 4097th", TOO_MANY, RefusalsTest::fullHead, x -> x.append(32, 127, 1));
        Check.sentence("the one named first when several would do (append)");
        Twins.refused("no series, with a full head", NO_SUCH, RefusalsTest::fullHead, x -> x.append(33, 127, 1));
        Twins.refused("no series and no time, with a full head", NO_SUCH, RefusalsTest::fullHead,
                x -> x.append(-1, -1, 1));
        Twins.refused("no time, with a full head", WRONG, RefusalsTest::fullHead, x -> x.append(32, MOST + 1, 1));
        Twins.refused("the last time, with a full head", WRONG, RefusalsTest::fullHead, x -> x.append(0, 127, 1));
    }

    private static void bulks() {
        Check.sentence("8 bulk: IndexOutOfBoundsException (there is no such series)");
        noSuchSeries("bulk", RefusalsTest::livedWithPoints, (x, s) -> x.bulk(s));
        noSuchSeries("bulk of an empty tape", x -> {
            lived(x);
            x.end(0);
        }, (x, s) -> x.bulk(s));
    }

    private static void deletes() {
        Check.sentence("9 delete: IndexOutOfBoundsException, before IllegalArgumentException");
        noSuchSeries("delete", RefusalsTest::lived, (x, s) -> x.delete(s, 0, 100));
        noSuchSeries("delete, from above to", RefusalsTest::lived, (x, s) -> x.delete(s, 100, 0));
        Check.sentence("9 delete: IllegalArgumentException: from is above to");
        long[][] wrong = {{31, 30}, {41, 40}, {0, -1}, {Long.MAX_VALUE, Long.MIN_VALUE},
            {Long.MIN_VALUE + 1, Long.MIN_VALUE}, {Long.MAX_VALUE, Long.MAX_VALUE - 1}, {MOST + 2, MOST + 1}};
        for (long[] w : wrong) {
            Twins.refused("delete from " + w[0] + " to " + w[1], WRONG, RefusalsTest::lived,
                    x -> x.delete(0, w[0], w[1]));
            Twins.refused("delete of no points from " + w[0] + " to " + w[1], WRONG, RefusalsTest::lived,
                    x -> x.delete(2, w[0], w[1]));
        }
    }

    /** 64 scars, three points in a parcel, two in the head. */
    private static void allScars(WindowTables x) {
        Check.series(x, "s=0");
        Check.series(x, "s=1");
        StringBuilder points = new StringBuilder();
        for (int time = 0; time < 67; time++) {
            points.append(Check.point(time, 2 * time));
        }
        Check.feed(x, points.toString());
        x.bulk(0);
        x.pack();
        for (int time = 0; time < 64; time++) {
            x.delete(0, time, time);
        }
        x.append(0, 80, 1);
        x.append(0, 81, 2);
        Check.ask(x, "growth({})", 60, 10, 3);
        Check.series(x, "s=");
        Check.feed(x, "s=2");
    }

    private static void deletesWithAllScars() {
        Check.sentence("9 delete: UnsupportedOperationException: it would be the 65th scar");
        Twins.refused("the 65th scar", TOO_MANY, RefusalsTest::allScars, x -> x.delete(0, 66, 66));
        Twins.refused("the 65th scar, with points of the head", TOO_MANY, RefusalsTest::allScars,
                x -> x.delete(0, 66, 80));
        Twins.refused("the 65th scar, any numbers", TOO_MANY, RefusalsTest::allScars,
                x -> x.delete(0, Long.MIN_VALUE, Long.MAX_VALUE));
        Check.sentence("the one named first when several would do (delete)");
        Twins.refused("no series, with all scars", NO_SUCH, RefusalsTest::allScars, x -> x.delete(2, 64, 66));
        Twins.refused("no series, from above to, with all scars", NO_SUCH, RefusalsTest::allScars,
                x -> x.delete(-1, 66, 64));
        Twins.refused("from above to, with all scars", WRONG, RefusalsTest::allScars, x -> x.delete(0, 66, 64));
    }

    private static void retains() {
        Check.sentence("10 retain: IllegalArgumentException: it is no time, or below the horizon");
        long[] wrong = {-1, Long.MIN_VALUE, MOST + 1, Long.MAX_VALUE, 11, 0};
        for (long time : wrong) {
            Twins.refused("retain(" + time + ")", WRONG, RefusalsTest::lived, x -> x.retain(time));
        }
        Twins.refused("retain(-1) of a new one", WRONG, RefusalsTest::newOne, x -> x.retain(-1));
        Twins.refused("retain below the last time there is", WRONG, x -> {
            lived(x);
            x.retain(MOST);
        }, x -> x.retain(MOST - 1));
    }

    private static void refusedAsk(long from, long width, int n) {
        String call = "ask(" + from + ", " + width + ", " + n + ")";
        Twins.refused(call, WRONG, RefusalsTest::livedWithQuestion, x -> x.ask(from, width, n));
        Twins.refused(call + " with a series on the tape", WRONG, RefusalsTest::lived, x -> x.ask(from, width, n));
        Twins.refused(call + " without a table", WRONG, RefusalsTest::livedWithFaultyQuestion,
                x -> x.ask(from, width, n));
    }

    private static void asks() {
        Check.sentence("11 ask: IllegalArgumentException: from is no time");
        long[] noTime = {-1, Long.MIN_VALUE, MOST + 1, Long.MAX_VALUE};
        for (long from : noTime) {
            refusedAsk(from, 10, 3);
        }
        Check.sentence("11 ask: IllegalArgumentException: width not 1 .. 1099511627775");
        long[] noWidth = {0, -1, Long.MIN_VALUE, MOST + 1, Long.MAX_VALUE};
        for (long width : noWidth) {
            refusedAsk(0, width, 3);
        }
        Check.sentence("11 ask: IllegalArgumentException: or n not 1 .. 64");
        int[] noNumber = {0, -1, Integer.MIN_VALUE, 65, Integer.MAX_VALUE};
        for (int n : noNumber) {
            refusedAsk(0, 10, n);
        }
        refusedAsk(-1, 0, 0);
    }

    private static void rowsAndWindows() {
        Check.sentence("13 text: IndexOutOfBoundsException: there is no such row (without a table there is none)");
        noSuchRow("text", (x, row) -> x.text(row, 0, 0));
        noSuchRow("text of no name", (x, row) -> x.text(row, 2, -1));
        Check.sentence("14 isThere: IndexOutOfBoundsException (there is no such row or window)");
        noSuchRow("isThere", (x, row) -> x.isThere(row, 0) ? 1 : 0);
        noSuchWindow("isThere", (x, window) -> x.isThere(1, window) ? 1 : 0);
        Check.sentence("15 cell: IndexOutOfBoundsException (there is no such row or window)");
        noSuchRow("cell", (x, row) -> x.cell(row, 0));
        noSuchWindow("cell", (x, window) -> x.cell(1, window));
    }

    private static void noSuchRow(String call, SeriesCall calling) {
        int[] none = {-1, 2, Integer.MIN_VALUE, Integer.MAX_VALUE};
        for (int row : none) {
            Twins.refused(call + " of row " + row, NO_SUCH, RefusalsTest::lived, x -> calling.call(x, row));
        }
        Twins.refused(call + " before a question", NO_SUCH, RefusalsTest::newOne, x -> calling.call(x, 0));
        Twins.refused(call + " after a fault", NO_SUCH, RefusalsTest::livedWithFaultyQuestion,
                x -> calling.call(x, 0));
        Twins.refused(call + " of a table without rows", NO_SUCH, x -> {
            lived(x);
            x.end(0);
            Check.ask(x, "sum by (s) ({s=\"9\"})", 0, 10, 3);
        }, x -> calling.call(x, 0));
        Twins.refused(call + " of row 1 without names", NO_SUCH, x -> Check.ask(x, "7", 0, 10, 3),
                x -> calling.call(x, 1));
    }

    private static void noSuchWindow(String call, SeriesCall calling) {
        int[] none = {-1, 3, 64, Integer.MIN_VALUE, Integer.MAX_VALUE};
        for (int window : none) {
            Twins.refused(call + " of window " + window, NO_SUCH, RefusalsTest::lived, x -> calling.call(x, window));
        }
    }

    private static void lasts() {
        Check.sentence("16 last: IndexOutOfBoundsException (there is no such series)");
        noSuchSeries("last", RefusalsTest::lived, (x, s) -> x.last(s));
    }

    private static void allParcels(WindowTables x) {
        Check.series(x, "s=0");
        for (int time = 0; time < 32; time++) {
            x.append(0, time, time);
            x.pack();
        }
        x.append(0, 40, 1);
        x.append(0, 41, 2);
        Check.feed(x, "s=1");
    }

    private static void packs() {
        Check.sentence("17 pack: UnsupportedOperationException: there are 32 parcels");
        Twins.refused("the 33rd parcel", TOO_MANY, RefusalsTest::allParcels, WindowTables::pack);
        Check.sentence("32 parcels (each is there for good, whatever becomes of its points)");
        Twins.refused("the 33rd parcel, when the points of all others are gone", TOO_MANY, x -> {
            allParcels(x);
            x.delete(0, 0, 20);
            x.retain(35);
        }, WindowTables::pack);
    }

    private static void counts() {
        Check.sentence("18 count: IllegalArgumentException: what is none of these");
        int[] wrong = {-1, 5, Integer.MIN_VALUE, Integer.MAX_VALUE};
        for (int what : wrong) {
            Twins.refused("count(" + what + ")", WRONG, RefusalsTest::lived, x -> x.count(what));
        }
    }
}
