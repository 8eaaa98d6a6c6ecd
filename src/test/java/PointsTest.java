/** Promises 7, 8, 9, 10, 16, 17 and 18: append, bulk, delete, retain, last, pack, count. */
public final class PointsTest {
    private static final long MOST = 1099511627775L;

    public static void main(String[] args) {
        appending();
        fullHead();
        bulks();
        bulkStops();
        deleting();
        deletingAnyNumbers();
        scars();
        retaining();
        headAfterRetain();
        packing();
        parcels();
        lastTimes();
        counting();
        Check.finish("PointsTest");
    }

    private static WindowTables withSeries(int many) {
        WindowTables x = new WindowTables();
        for (int s = 0; s < many; s++) {
            Check.series(x, "s=" + s);
        }
        return x;
    }

    private static void appending() {
        WindowTables x = withSeries(2);
        Check.due("append", x.append(0, 0, 5), 1);
        Check.due("append", x.append(0, 1, Long.MIN_VALUE), 2);
        Check.due("append to another", x.append(1, 0, Long.MAX_VALUE), 3);
        Check.due("the last time there is", x.append(1, MOST, -1), 4);
        Check.refused("no such series", IndexOutOfBoundsException.class, () -> x.append(2, 5, 0));
        Check.refused("no such series, and no time", IndexOutOfBoundsException.class, () -> x.append(-1, -1, 0));
        Check.refused("below 0", IllegalArgumentException.class, () -> x.append(0, -1, 0));
        Check.refused("least", IllegalArgumentException.class, () -> x.append(0, Long.MIN_VALUE, 0));
        Check.refused("above all times", IllegalArgumentException.class, () -> x.append(0, MOST + 1, 0));
        Check.refused("the last time again", IllegalArgumentException.class, () -> x.append(0, 1, 0));
        Check.refused("below the last time", IllegalArgumentException.class, () -> x.append(0, 0, 0));
        Check.due("nothing came", x.count(1), 4);
        Check.due("last time", x.last(0), 1);
        Check.due("sums", Check.answered(x, "sum by (s) ({})", 0, 2, 1),
                "0: " + (Long.MIN_VALUE + 5) + "; 1: " + Long.MAX_VALUE);
        x.retain(10);
        Check.refused("below the horizon", IllegalArgumentException.class, () -> x.append(0, 9, 0));
        Check.due("at the horizon", x.append(0, 10, 3), 2);
    }

    private static void fullHead() {
        WindowTables x = withSeries(2);
        for (int k = 1; k <= 4096; k++) {
            Check.due("append " + k, x.append(0, k, k), k);
        }
        Check.refused("the 4097th", UnsupportedOperationException.class, () -> x.append(1, 5000, 0));
        Check.refused("no time comes first", IllegalArgumentException.class, () -> x.append(0, 4096, 0));
        Check.refused("no series comes first", IndexOutOfBoundsException.class, () -> x.append(2, 4096, 0));
        Check.due("last of the refused one", x.last(1), -1);
        Check.feed(x, Check.point(5000, 1));
        Check.due("bulk with a full head", x.bulk(1), 0);
        Check.due("delete makes room", x.delete(0, 1, 1), 1);
        Check.feed(x, Check.point(5000, 1) + Check.point(5001, 2));
        Check.due("bulk fills it", x.bulk(1), 1);
        Check.due("pack", x.pack(), 4096);
        Check.due("append then", x.append(1, 5001, 0), 1);
        Check.due("all", x.count(4), 4097);
    }

    private static void bulks() {
        WindowTables x = withSeries(2);
        Check.due("bulk of nothing", x.bulk(0), 0);
        Check.feed(x, Check.point(3, -7) + Check.point(4, Long.MAX_VALUE) + Check.point(MOST, Long.MIN_VALUE));
        Check.refused("no such series", IndexOutOfBoundsException.class, () -> x.bulk(2));
        Check.refused("no such series", IndexOutOfBoundsException.class, () -> x.bulk(-1));
        Check.due("the tape is still there", x.bulk(1), 3);
        Check.due("last", x.last(1), MOST);
        Check.due("head", x.count(1), 3);
        Check.due("the tape is empty", x.feed(0, 0, 0, 0, 0), 20);
        x.end(0);
        Check.due("values", Check.answered(x, "sum({})", 3, 1, 3), ": -7 " + Long.MAX_VALUE + " .");
        Check.due("value", Check.answered(x, "sum({})", MOST, MOST, 64),
                ": " + Long.MIN_VALUE + " .".repeat(63));
        Check.feed(x, Check.point(1, 0x0102030405060708L) + Check.point(2, 1).substring(0, 15));
        Check.due("what is left over does not count", x.bulk(0), 1);
        Check.due("highest byte first", Check.answered(x, "sum({s=\"0\"})", 0, 5, 1), ": " + 0x0102030405060708L);
        Check.feed(x, Check.point(9, 0).substring(0, 15));
        Check.due("fifteen bytes", x.bulk(0), 0);
        Check.due("the tape is empty", x.feed(0, 0, 0, 0, 0), 20);
    }

    private static void bulkStops() {
        WindowTables x = withSeries(1);
        Check.feed(x, Check.point(5, 1) + Check.point(6, 2) + Check.point(6, 3) + Check.point(7, 4));
        Check.due("a time again", x.bulk(0), 2);
        Check.due("last", x.last(0), 6);
        Check.due("the tape is empty", x.feed(0, 0, 0, 0, 0), 20);
        x.end(0);
        Check.feed(x, Check.point(-1, 1) + Check.point(8, 2));
        Check.due("no time", x.bulk(0), 0);
        Check.feed(x, Check.point(8, 1) + Check.point(MOST + 1, 2) + Check.point(9, 2));
        Check.due("a time too great", x.bulk(0), 1);
        x.retain(20);
        Check.feed(x, Check.point(19, 1) + Check.point(20, 2));
        Check.due("below the horizon", x.bulk(0), 0);
        Check.feed(x, Check.point(20, 1) + Check.point(21, 2));
        Check.due("at the horizon", x.bulk(0), 2);
        Check.due("head", x.count(1), 2);
    }

    private static void deleting() {
        WindowTables x = withSeries(2);
        for (int t = 10; t <= 50; t += 10) {
            x.append(0, t, t);
            x.append(1, t, -t);
        }
        Check.refused("no such series", IndexOutOfBoundsException.class, () -> x.delete(2, 5, 1));
        Check.refused("no such series", IndexOutOfBoundsException.class, () -> x.delete(-1, 1, 5));
        Check.refused("from above to", IllegalArgumentException.class, () -> x.delete(0, 20, 19));
        Check.due("none there", x.delete(0, 11, 19), 0);
        Check.due("none there", x.delete(0, 51, 51), 0);
        Check.due("both ends", x.delete(0, 20, 40), 3);
        Check.due("again", x.delete(0, 20, 40), 0);
        Check.due("head", x.count(1), 7);
        Check.due("seen", x.count(4), 7);
        Check.due("no scar", x.count(3), 0);
        Check.due("the rest", Check.answered(x, "sum by (s) ({})", 10, 10, 5),
                "0: 10 . . . 50; 1: -10 -20 -30 -40 -50");
        Check.due("the last one", x.delete(0, 50, 50), 1);
        Check.due("last time stays", x.last(0), 50);
        Check.refused("no point at a time that was", IllegalArgumentException.class, () -> x.append(0, 50, 1));
        Check.due("head now", x.append(0, 51, 1), 7);
    }

    private static void deletingAnyNumbers() {
        WindowTables x = withSeries(2);
        x.append(0, 0, 1);
        x.append(0, MOST, 2);
        x.append(1, 0, 1);
        Check.due("before all", x.delete(0, Long.MIN_VALUE, -1), 0);
        Check.due("behind all", x.delete(0, MOST + 1, Long.MAX_VALUE), 0);
        Check.due("one number", x.delete(0, Long.MAX_VALUE, Long.MAX_VALUE), 0);
        Check.due("one number", x.delete(0, Long.MIN_VALUE, Long.MIN_VALUE), 0);
        Check.due("all", x.delete(0, Long.MIN_VALUE, Long.MAX_VALUE), 2);
        Check.due("of one series", x.count(4), 1);
        Check.refused("turned round", IllegalArgumentException.class,
                () -> x.delete(0, Long.MAX_VALUE, Long.MIN_VALUE));
    }

    private static void scars() {
        WindowTables x = withSeries(2);
        for (int t = 0; t < 70; t++) {
            x.append(0, t, t);
        }
        x.pack();
        for (int t = 0; t < 64; t++) {
            Check.due("a scar", x.delete(0, t, t), 1);
            Check.due("scars", x.count(3), t + 1);
        }
        x.append(0, 100, 1);
        x.append(0, 101, 1);
        x.append(1, 100, 1);
        Check.refused("the 65th", UnsupportedOperationException.class, () -> x.delete(0, 69, 100));
        Check.refused("from above to comes first", IllegalArgumentException.class, () -> x.delete(0, 69, 68));
        Check.refused("no series comes first", IndexOutOfBoundsException.class, () -> x.delete(2, 69, 100));
        Check.due("nothing changed", x.count(4), 9);
        Check.due("nothing changed", x.count(1), 3);
        Check.due("none there", x.delete(0, 0, 63), 0);
        Check.due("in the head alone", x.delete(0, 70, 100), 1);
        Check.due("head", x.count(1), 2);
        Check.due("scars", x.count(3), 64);
        Check.due("by the horizon", x.retain(70), 6);
        Check.due("scars are for good", x.count(3), 64);
        Check.due("no parcel point is left", x.delete(0, 0, 101), 1);

        WindowTables y = withSeries(1);
        y.append(0, 1, 1);
        y.pack();
        y.append(0, 2, 1);
        Check.due("parcel and head", y.delete(0, 1, 2), 2);
        Check.due("one scar", y.count(3), 1);
        Check.due("head", y.count(1), 0);
        Check.due("the parcel is for good", y.count(2), 1);
    }

    private static void retaining() {
        WindowTables x = withSeries(2);
        x.append(0, 5, 1);
        x.append(0, 10, 2);
        x.append(1, 9, 3);
        Check.refused("no time", IllegalArgumentException.class, () -> x.retain(-1));
        Check.refused("no time", IllegalArgumentException.class, () -> x.retain(MOST + 1));
        Check.due("the horizon that there is", x.retain(0), 0);
        Check.due("the time of a point", x.retain(5), 0);
        Check.due("retain", x.retain(10), 2);
        Check.refused("below the horizon", IllegalArgumentException.class, () -> x.retain(9));
        Check.due("the same again", x.retain(10), 0);
        Check.due("seen", x.count(4), 1);
        Check.due("answers", Check.answered(x, "count({})", 0, 100, 1), ": 1");
        Check.due("all", x.retain(MOST), 1);
        Check.due("none", x.retain(MOST), 0);
        Check.due("at the last time", x.append(1, MOST, 1), 1);
        Check.due("seen", x.count(4), 1);
    }

    private static void headAfterRetain() {
        WindowTables x = withSeries(2);
        x.append(0, 1, 1);
        x.append(1, 2, 1);
        x.pack();
        x.append(0, 3, 1);
        x.append(1, 4, 1);
        Check.due("a point of the head, two of the parcel", x.retain(4), 3);
        Check.due("head", x.count(1), 1);
        Check.due("no scars", x.count(3), 0);
        Check.due("parcels", x.count(2), 1);
        Check.due("pack", x.pack(), 1);
        x.append(0, 10, 1);
        x.delete(0, 10, 10);
        Check.due("deleted ones are not in the head", x.pack(), 0);
        Check.due("parcels", x.count(2), 2);
        Check.due("all of it", x.retain(100), 1);
    }

    private static void packing() {
        WindowTables x = withSeries(1);
        Check.due("nothing to pack", x.pack(), 0);
        Check.due("no parcel", x.count(2), 0);
        x.append(0, 1, 10);
        x.append(0, 2, 20);
        String before = Check.answered(x, "growth({})", 0, 10, 1);
        Check.due("pack", x.pack(), 2);
        Check.due("head", x.count(1), 0);
        Check.due("parcels", x.count(2), 1);
        Check.due("seen", x.count(4), 2);
        Check.due("no answer shows it", Check.answered(x, "growth({})", 0, 10, 1), before);
        Check.due("head begins again", x.append(0, 3, 30), 1);
        Check.due("growth over both", Check.answered(x, "growth({})", 3, 1, 1), ": 10");
    }

    private static void parcels() {
        WindowTables x = withSeries(1);
        for (int t = 0; t < 32; t++) {
            x.append(0, t, t);
            Check.due("pack", x.pack(), 1);
        }
        Check.due("parcels", x.count(2), 32);
        Check.due("nothing to pack", x.pack(), 0);
        x.append(0, 50, 1);
        Check.refused("the 33rd", UnsupportedOperationException.class, x::pack);
        Check.due("head", x.count(1), 1);
        Check.due("parcels go with no point", x.retain(40), 32);
        Check.refused("the 33rd", UnsupportedOperationException.class, x::pack);
        x.retain(60);
        Check.due("nothing to pack", x.pack(), 0);
        Check.due("parcels", x.count(2), 32);
    }

    private static void lastTimes() {
        WindowTables x = withSeries(2);
        Check.due("at first", x.last(0), -1);
        x.append(0, 0, 1);
        Check.due("time 0", x.last(0), 0);
        x.append(0, 7, 1);
        Check.due("time 7", x.last(0), 7);
        Check.due("another one", x.last(1), -1);
        x.delete(0, 0, 10);
        Check.due("after a delete", x.last(0), 7);
        x.retain(100);
        Check.due("after retain", x.last(0), 7);
        Check.due("after retain", x.last(1), -1);
        Check.refused("no such one", IndexOutOfBoundsException.class, () -> x.last(2));
        Check.refused("no such one", IndexOutOfBoundsException.class, () -> x.last(-1));
    }

    private static void counting() {
        WindowTables x = withSeries(3);
        x.append(0, 1, 1);
        x.append(1, 1, 1);
        x.pack();
        x.append(2, 1, 1);
        x.append(2, 2, 1);
        x.append(2, 3, 1);
        x.delete(0, 1, 1);
        Check.due("series", x.count(0), 3);
        Check.due("head", x.count(1), 3);
        Check.due("parcels", x.count(2), 1);
        Check.due("scars", x.count(3), 1);
        Check.due("seen", x.count(4), 4);
        Check.refused("count(5)", IllegalArgumentException.class, () -> x.count(5));
        Check.refused("count(-1)", IllegalArgumentException.class, () -> x.count(-1));
        Check.refused("count(most)", IllegalArgumentException.class, () -> x.count(Integer.MAX_VALUE));
    }
}
