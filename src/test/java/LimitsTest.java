/**
 * The limits and the empty and full cases of the tape, of series and of points: the last input that is allowed and the
 * first that is not. The sentences stand in the document's order; RefusalsTest has what a refused call must leave alone.
 */
public final class LimitsTest {
    private static final long MOST = 1099511627775L;
    private static final int NONE = WindowTables.NONE;
    private static final String LONG = "abcdefghijklmnopqrstuvwx";

    public static void main(String[] args) {
        words();
        labels();
        numbersOfSeries();
        times();
        lastTimes();
        horizon();
        heads();
        parcels();
        deletes();
        scars();
        newObject();
        tape();
        readingSeries();
        faults();
        letters();
        appends();
        bulks();
        bulkStops();
        retains();
        packs();
        counts();
        Check.finish("LimitsTest");
    }

    private static WindowTables withSeries(int many) {
        WindowTables x = new WindowTables();
        for (int s = 0; s < many; s++) {
            Check.series(x, "s=" + s);
        }
        return x;
    }

    private static void counted(WindowTables x, int head, int parcels, int scars, int seen) {
        Check.due("points in the head", x.count(1), head);
        Check.due("parcels", x.count(2), parcels);
        Check.due("scars", x.count(3), scars);
        Check.due("points seen", x.count(4), seen);
    }

    private static void is(WindowTables x, String question, long from, long width, int n, String want) {
        Check.due(question, Check.answered(x, question, from, width, n), want);
    }

    private static void wordFault(String text, int code, int place) {
        WindowTables x = new WindowTables();
        Check.due(text, Check.series(x, text), NONE);
        Check.due("code of " + text, x.fault(0), code);
        Check.due("place of " + text, x.fault(1), place);
    }

    private static void goodText(String text, String sorted) {
        WindowTables x = new WindowTables();
        Check.due(text, Check.series(x, text), 0);
        Check.due("text of " + text, Check.textOf(x, 0), sorted);
        Check.due("code of " + text, x.fault(0), 0);
        Check.due("place of " + text, x.fault(1), 0);
    }

    private static void words() {
        Check.sentence("A WORD is a row of 1 to 24 bytes");
        wordFault("=b", 7, 0);
        wordFault("a=", 7, 2);
        goodText("a=b", "a=b");
        goodText(LONG + "=b", LONG + "=b");
        goodText("a=" + LONG, "a=" + LONG);
        wordFault(LONG + "y=b", 7, 24);
        wordFault("a=" + LONG + "y", 7, 26);
        Check.sentence("bytes 33 .. 126 without \" = , ( ) { }");
        for (int b = 0; b < 256; b++) {
            String word = String.valueOf((char) b);
            if (b >= 33 && b <= 126 && "\"=,(){}".indexOf(b) < 0) {
                goodText(word + word + "=" + word, word + word + "=" + word);
            } else {
                wordFault(word + "=v", 7, 0);
                wordFault("n=" + word, 7, 2);
            }
        }
    }

    private static void labels() {
        Check.sentence("A SERIES is a row of 1 to 6 labels");
        wordFault("", 7, 0);
        goodText("a=1", "a=1");
        goodText("a=1,b=1,c=1,d=1,e=1,f=1", "a=1,b=1,c=1,d=1,e=1,f=1");
        wordFault("a=1,b=1,c=1,d=1,e=1,f=1,g=1", 8, 24);
        Check.sentence("of which no two have the same name");
        wordFault("a=1,a=1", 8, 4);
        goodText("a=1,A=1,aa=1", "A=1,a=1,aa=1");
        Check.sentence("by rising names (byte by byte; the beginning of a word is less than the word)");
        goodText("b=1,a=2", "a=2,b=1");
        // With the = the bytes would stand the other way round: ! is below it.
        goodText("a!=1,a=2", "a=2,a!=1");
        goodText("a=2,a!=1", "a=2,a!=1");
        goodText("~=1,a=2,A=3,9=4,!=5", "!=5,9=4,A=3,a=2,~=1");
        goodText(LONG + "=1," + LONG.substring(0, 23) + "=2", LONG.substring(0, 23) + "=2," + LONG + "=1");
    }

    private static void numbersOfSeries() {
        Check.sentence("Series have numbers 0, 1, .., at most 256");
        WindowTables x = new WindowTables();
        for (int s = 0; s < 256; s++) {
            x.feed(0x6E3D6161, 0x61616161, 0x61616161, 0x61616161, 0x61616161 + s % 16 + s / 16 * 256);
            Check.due("series " + s, x.series(), s);
        }
        Check.due("how many", x.count(0), 256);
        Check.due("the last one has a text", x.letter(255, 0), 'n');
        Check.refused("letter(256, 0)", IndexOutOfBoundsException.class, () -> x.letter(256, 0));
        Check.due("the last one gets a point", x.append(255, 3, 1), 1);
        x.feed(0x6E3D6161, 0x61616161, 0x61616161, 0x61616161, 0x71616161);
        Check.refused("one more", UnsupportedOperationException.class, x::series);
    }

    private static void times() {
        Check.sentence("A POINT of a series has a TIME, 0 .. 1099511627775");
        WindowTables x = withSeries(2);
        Check.refused("time -1", IllegalArgumentException.class, () -> x.append(0, -1, 1));
        Check.due("time 0", x.append(0, 0, 1), 1);
        Check.refused("time 1099511627776", IllegalArgumentException.class, () -> x.append(0, MOST + 1, 1));
        Check.due("time 1099511627775", x.append(0, MOST, 1), 2);
        Check.refused("no time is left", IllegalArgumentException.class, () -> x.append(0, MOST, 1));
        Check.due("for another one there is", x.append(1, MOST, 1), 3);
        Check.sentence("a VALUE, 64 bits with a sign");
        WindowTables y = withSeries(1);
        long[] values = {0, -1, Long.MAX_VALUE, Long.MIN_VALUE, 1L << 32, -1L << 31};
        for (int k = 0; k < values.length; k++) {
            y.append(0, k, values[k]);
        }
        is(y, "first({})", 0, 1, 6, ": 0 -1 9223372036854775807 -9223372036854775808 4294967296 -2147483648");
        Check.sentence("Points come by rising times");
        Check.refused("the same time", IllegalArgumentException.class, () -> y.append(0, 5, 0));
        Check.refused("a time before", IllegalArgumentException.class, () -> y.append(0, 4, 0));
        Check.due("the next time", y.append(0, 6, 0), 7);
    }

    private static void lastTimes() {
        Check.sentence("the LAST time of a series is that of the latest point that ever came (-1 at first)");
        WindowTables x = withSeries(2);
        Check.due("at first", x.last(0), -1);
        x.append(0, 0, 5);
        Check.due("time 0", x.last(0), 0);
        x.append(0, 7, 5);
        Check.due("time 7", x.last(0), 7);
        Check.due("of another one", x.last(1), -1);
        Check.refused("refused", IllegalArgumentException.class, () -> x.append(0, 7, 5));
        Check.due("after a refused one", x.last(0), 7);
        Check.sentence("whatever became of it");
        x.delete(0, 7, 7);
        Check.due("deleted", x.last(0), 7);
        x.append(0, 8, 5);
        x.pack();
        Check.due("packed", x.last(0), 8);
        x.delete(0, 0, 8);
        Check.due("deleted from a parcel", x.last(0), 8);
        x.append(0, 9, 5);
        x.retain(100);
        Check.due("below the horizon", x.last(0), 9);
        x.append(1, MOST, 5);
        Check.due("the greatest", x.last(1), MOST);
    }

    private static void horizon() {
        Check.sentence("THE HORIZON is a time, 0 at first");
        WindowTables x = withSeries(3);
        Check.due("the horizon that there is", x.retain(0), 0);
        Check.due("a point at it", x.append(0, 0, 1), 1);
        Check.sentence("A point is SEEN if .. its time is not below the horizon");
        x.append(1, 9, 1);
        x.append(2, 10, 1);
        Check.due("at the horizon", x.retain(9), 1);
        counted(x, 2, 0, 0, 2);
        Check.due("below the horizon", x.retain(10), 1);
        counted(x, 1, 0, 0, 1);
        is(x, "count by (s) ({})", 0, 100, 1, "2: 1");
        Check.refused("a point below it", IllegalArgumentException.class, () -> x.append(0, 9, 1));
        Check.due("a point at it", x.append(0, 10, 1), 2);
        Check.sentence("A point is SEEN if it was not deleted");
        x.delete(0, 10, 10);
        counted(x, 1, 0, 0, 1);
        is(x, "count by (s) ({})", 0, 100, 1, "2: 1");
    }

    private static void heads() {
        Check.sentence("the HEAD (the points that came since the latest packing and are seen): the head is empty then");
        WindowTables x = withSeries(2);
        Check.due("one", x.append(0, 1, 1), 1);
        Check.due("of whichever series", x.append(1, 1, 1), 2);
        Check.due("all are packed", x.pack(), 2);
        counted(x, 0, 1, 0, 2);
        Check.due("it begins again", x.append(1, 2, 1), 1);
        Check.due("deleted ones do not count", x.delete(1, 2, 2), 1);
        Check.due("it begins again", x.append(1, 3, 1), 1);
        Check.due("what is packed does not count", x.delete(0, 1, 1), 1);
        Check.due("a second one", x.append(0, 4, 1), 2);
        Check.sentence("Points below a horizon that moved are in the head no more");
        Check.due("one of the head, one of the parcel", x.retain(4), 2);
        counted(x, 1, 1, 1, 1);
        Check.due("a second one", x.append(1, 4, 1), 2);
        Check.due("what is left is packed", x.pack(), 2);
        x.append(0, 5, 1);
        Check.due("all of the head, and of the parcels", x.retain(6), 3);
        counted(x, 0, 2, 1, 0);
        Check.due("nothing is left to pack", x.pack(), 0);
        counted(x, 0, 2, 1, 0);
    }

    private static void parcels() {
        Check.sentence("a PARCEL, of which there are at most 32");
        WindowTables x = withSeries(1);
        for (int k = 1; k <= 32; k++) {
            x.append(0, k, k);
            Check.due("parcel " + k, x.pack(), 1);
            Check.due("parcels", x.count(2), k);
        }
        x.append(0, 33, 33);
        Check.refused("the 33rd", UnsupportedOperationException.class, x::pack);
        counted(x, 1, 32, 0, 33);
        Check.sentence("(each is there for good, whatever becomes of its points)");
        Check.due("all are deleted", x.delete(0, 1, 32), 32);
        counted(x, 1, 32, 1, 1);
        Check.refused("the 33rd", UnsupportedOperationException.class, x::pack);
        WindowTables y = withSeries(1);
        y.append(0, 1, 1);
        y.pack();
        y.retain(50);
        counted(y, 0, 1, 0, 0);
    }

    private static void deletes() {
        Check.sentence("9 delete: from one time to another one (with the points at both)");
        WindowTables x = withSeries(2);
        for (int t = 10; t <= 14; t++) {
            x.append(0, t, t);
            x.append(1, t, t);
        }
        Check.due("from 11 to 13", x.delete(0, 11, 13), 3);
        is(x, "sum by (s) ({})", 10, 1, 5, "0: 10 . . . 14; 1: 10 11 12 13 14");
        Check.due("from 14 to 14", x.delete(0, 14, 14), 1);
        Check.sentence("9 delete: (any numbers)");
        Check.due("below all", x.delete(1, Long.MIN_VALUE, 9), 0);
        Check.due("above all", x.delete(1, 15, Long.MAX_VALUE), 0);
        Check.due("from the least", x.delete(1, Long.MIN_VALUE, 10), 1);
        Check.due("to the greatest", x.delete(1, 14, Long.MAX_VALUE), 1);
        Check.due("the least alone", x.delete(1, Long.MIN_VALUE, Long.MIN_VALUE), 0);
        Check.due("the greatest alone", x.delete(1, Long.MAX_VALUE, Long.MAX_VALUE), 0);
        Check.due("all of them", x.delete(1, Long.MIN_VALUE, Long.MAX_VALUE), 3);
        x.append(1, MOST, 1);
        Check.due("behind the last time there is", x.delete(1, MOST + 1, Long.MAX_VALUE), 0);
        Check.due("the last time there is", x.delete(1, MOST, MOST), 1);
        Check.sentence("9 delete: with none nothing is done");
        Check.due("nothing there", x.delete(1, 0, MOST), 0);
        Check.due("nothing between", x.delete(0, 11, 13), 0);
        counted(x, 1, 0, 0, 1);
        x.pack();
        Check.due("nothing in the parcel", x.delete(0, 11, 13), 0);
        Check.due("nothing of this series", x.delete(1, 10, 10), 0);
        counted(x, 0, 1, 0, 1);
    }

    private static void scars() {
        Check.sentence("if some of them are in parcels, the delete is a SCAR");
        WindowTables x = withSeries(2);
        for (int t = 0; t < 100; t++) {
            x.append(0, t, t);
        }
        x.append(1, 5, 1);
        x.pack();
        x.append(0, 100, 1);
        x.append(0, 101, 1);
        x.append(0, 102, 1);
        Check.due("of the head alone", x.delete(0, 101, 101), 1);
        counted(x, 2, 1, 0, 103);
        Check.due("of both", x.delete(0, 98, 100), 3);
        counted(x, 1, 1, 1, 100);
        Check.due("what was in the parcel is gone", x.delete(0, 98, 102), 1);
        counted(x, 0, 1, 1, 99);
        Check.due("many points are one scar", x.delete(0, 70, 97), 28);
        counted(x, 0, 1, 2, 71);
        Check.due("of a parcel, below the horizon", x.retain(5), 5);
        Check.due("such ones are no points", x.delete(0, 0, 4), 0);
        x.append(0, 103, 1);
        Check.sentence("is a SCAR (for good); at most 64");
        for (int t = 5; t < 67; t++) {
            Check.due("a scar", x.delete(0, t, t), 1);
        }
        counted(x, 1, 1, 64, 5);
        Check.refused("the 65th", UnsupportedOperationException.class, () -> x.delete(0, 67, 67));
        Check.refused("of another series", UnsupportedOperationException.class, () -> x.delete(1, 5, 5));
        Check.due("none there", x.delete(0, 5, 66), 0);
        Check.due("of the head alone", x.delete(0, 103, 103), 1);
        counted(x, 0, 1, 64, 4);
        Check.due("by age", x.retain(68), 2);
        counted(x, 0, 1, 64, 2);
        Check.refused("the 65th", UnsupportedOperationException.class, () -> x.delete(0, 68, 68));
    }

    private static void newObject() {
        Check.sentence("1 A new object: No series; an empty tape, no table");
        WindowTables x = new WindowTables();
        Check.due("series", x.count(0), 0);
        counted(x, 0, 0, 0, 0);
        Check.refused("letter(0, 0)", IndexOutOfBoundsException.class, () -> x.letter(0, 0));
        Check.refused("end(1)", IllegalArgumentException.class, () -> Check.end(x, 1));
        Check.due("names()", x.names(), NONE);
        Check.refused("text(0, 0, 0)", IndexOutOfBoundsException.class, () -> x.text(0, 0, 0));
        Check.due("its tape gets its first bytes", x.feed(0, 0, 0, 0, 0), 20);
        WindowTables y = withSeries(1);
        Check.due("objects have nothing in common", new WindowTables().count(0), 0);
        Check.due("objects have nothing in common", y.count(0), 1);
    }

    private static void tape() {
        Check.sentence("2 feed: the highest of each number first: how many it has");
        WindowTables x = new WindowTables();
        Check.due("twenty", x.feed(0x61626364, 0x653D6667, 0x68696A6B, 0x6C6D6E6F, 0x70717273), 20);
        Check.due("forty", x.feed(0x7E202020, 0x80FFFFFF, Integer.MIN_VALUE, -1, 0), 40);
        x.end(21);
        Check.due("series", x.series(), 0);
        Check.due("its text", Check.textOf(x, 0), "abcde=fghijklmnopqrs~");
        Check.sentence("2 feed: they would be more than 65536");
        Check.feed(x, " ".repeat(16));
        for (int k = 1; k < 3276; k++) {
            x.feed(0x20202020, 0x20202020, 0x20202020, 0x20202020, 0x20202020);
        }
        Check.due("65536", x.feed(0x20202020, 0x20202020, 0x20202020, 0x20202020, 0x20202037), 65536);
        Check.refused("65556", UnsupportedOperationException.class, () -> x.feed(0, 0, 0, 0, 0));
        Check.due("all of it is read", x.ask(0, 1, 1), 1);
        Check.due("to its last byte", x.cell(0, 0), 7);
        Check.feed(x, " ".repeat(17));
        for (int k = 1; k < 3276; k++) {
            x.feed(0x20202020, 0x20202020, 0x20202020, 0x20202020, 0x20202020);
        }
        Check.refused("65537", UnsupportedOperationException.class, () -> x.feed(0, 0, 0, 0, 0));
        Check.sentence("3 end: The tape keeps its first n bytes");
        x.end(0);
        Check.due("it keeps none", x.feed(0x613D6263, 0x2C643D65, 0, 0, 0), 20);
        x.end(20);
        Check.refused("it keeps all, and has no more", IllegalArgumentException.class, () -> Check.end(x, 21));
        x.end(8);
        Check.refused("what is cut off is gone", IllegalArgumentException.class, () -> Check.end(x, 9));
        Check.due("what comes stands behind it", x.feed(0x66000000, 0, 0, 0, 0), 28);
        x.end(9);
        Check.due("series", x.series(), 1);
        Check.due("its text", Check.textOf(x, 1), "a=bc,d=ef");
        x.end(0);
        Check.refused("end(1) of an empty tape", IllegalArgumentException.class, () -> Check.end(x, 1));
    }

    private static void readingSeries() {
        Check.sentence("4 series: The tape (which is empty then, with a fault, too)");
        WindowTables x = new WindowTables();
        Check.due("a new one", Check.series(x, "a=1,b=2"), 0);
        Check.refused("the tape is empty", IllegalArgumentException.class, () -> Check.end(x, 1));
        Check.due("one with a fault", Check.series(x, "a=1,b=2,"), NONE);
        Check.refused("the tape is empty", IllegalArgumentException.class, () -> Check.end(x, 1));
        Check.due("an empty one has a fault", x.series(), NONE);
        Check.due("its code", x.fault(0), 7);
        Check.due("its place", x.fault(1), 0);
        Check.sentence("4 series: its labels in any order: its number; it is a new one, if there was none such");
        Check.due("the same", Check.series(x, "b=2,a=1"), 0);
        Check.refused("the tape is empty", IllegalArgumentException.class, () -> Check.end(x, 1));
        String[] others = {"a=1", "b=2", "a=2,b=1", "a=1,b=2,c=3", "a=1,b=22", "a=1,b=", "a=1b=2"};
        int[] numbers = {1, 2, 3, 4, 5, NONE, NONE};
        for (int k = 0; k < others.length; k++) {
            Check.due(others[k], Check.series(x, others[k]), numbers[k]);
        }
        Check.due("how many", x.count(0), 6);
        Check.due("one of six, turned round", Check.series(x, "f=6,e=5,d=4,c=3,b=2,a=1"), 6);
        Check.due("one of six, mixed", Check.series(x, "c=3,a=1,f=6,b=2,e=5,d=4"), 6);
    }

    private static void faults() {
        Check.sentence("5 fault: 0 and 0 if it had none, or there was none");
        WindowTables x = new WindowTables();
        Check.due("there was none", x.fault(0), 0);
        Check.due("there was none", x.fault(1), 0);
        Check.sentence("5 fault: Of the latest series() or ask() that did not throw");
        Check.series(x, "a=b,a=c");
        Check.due("of a series", x.fault(0), 8);
        Check.due("of a series", x.fault(1), 4);
        Check.ask(x, "1 + ?", 0, 1, 1);
        Check.due("of a question", x.fault(0), 1);
        Check.due("of a question", x.fault(1), 4);
        Check.feed(x, "1");
        Check.refused("ask that throws", IllegalArgumentException.class, () -> x.ask(0, 1, 0));
        Check.due("still the one before", x.fault(0), 1);
        Check.due("still the one before", x.fault(1), 4);
        Check.due("a question without a fault", x.ask(0, 1, 1), 1);
        Check.due("it had none", x.fault(0), 0);
        Check.due("it had none", x.fault(1), 0);
        Check.series(x, "a=b ");
        Check.due("of a series", x.fault(0), 7);
        Check.due("of a series", x.fault(1), 3);
        Check.series(x, "a=b");
        Check.due("it had none", x.fault(0), 0);
        Check.due("it had none", x.fault(1), 0);
        Check.ask(x, "sum by (a) ({}) - sum by (b) ({})", 0, 1, 1);
        x.append(0, 1, 1);
        x.pack();
        x.delete(0, 0, 5);
        x.retain(3);
        x.bulk(0);
        Check.due("other calls leave it alone", x.fault(0), 5);
        Check.due("other calls leave it alone", x.fault(1), 16);
    }

    private static void letters() {
        Check.sentence("6 letter: NONE when it has no such one");
        WindowTables x = new WindowTables();
        Check.series(x, "b=2,a=1");
        Check.due("letter 0", x.letter(0, 0), 'a');
        Check.due("letter 6", x.letter(0, 6), '2');
        int[] none = {-1, 7, Integer.MIN_VALUE, Integer.MAX_VALUE};
        for (int k : none) {
            Check.due("letter " + k, x.letter(0, k), NONE);
        }
        StringBuilder longest = new StringBuilder();
        for (char c = '1'; c <= '6'; c++) {
            longest.append(c == '1' ? "" : ",").append(c).append(LONG.substring(1)).append('=').append(LONG);
        }
        Check.series(x, longest.toString());
        Check.due("the longest text", Check.textOf(x, 1), longest.toString());
        Check.due("its last letter", x.letter(1, 298), 'x');
        Check.due("none behind it", x.letter(1, 299), NONE);
    }

    private static void appends() {
        Check.sentence("7 append: how many points are in the head; there are 4096 in it");
        WindowTables x = withSeries(2);
        for (int k = 1; k <= 4095; k++) {
            x.append(0, k, k);
        }
        Check.due("the 4096th", x.append(1, 1, 1), 4096);
        Check.refused("the 4097th", UnsupportedOperationException.class, () -> x.append(1, 2, 2));
        Check.due("one less", x.delete(1, 1, 1), 1);
        Check.due("there is room", x.append(1, 2, 2), 4096);
        Check.due("ten less", x.retain(10), 9 + 1);
        Check.due("there is room", x.append(1, 10, 2), 4087);
        Check.due("packed", x.pack(), 4087);
        Check.due("there is room", x.append(1, 11, 2), 1);
    }

    private static void bulk(WindowTables x, String points, int came) {
        Check.feed(x, points);
        Check.due("bulk", x.bulk(0), came);
        Check.refused("the tape is empty then", IllegalArgumentException.class, () -> Check.end(x, 1));
    }

    private static void bulks() {
        Check.sentence("8 bulk: points, each of 16 bytes, time and value, the highest byte first");
        WindowTables x = withSeries(1);
        bulk(x, "", 0);
        bulk(x, Check.point(3, 0x0102030405060708L) + Check.point(4, -2) + Check.point(0x0102030405L, 9), 3);
        is(x, "sum({})", 3, 1, 3, ": 72623859790382856 -2 .");
        is(x, "sum({})", 0x0102030405L, 1, 1, ": 9");
        Check.sentence("8 bulk: (what is left over does not count)");
        WindowTables y = withSeries(1);
        bulk(y, Check.point(3, 1).substring(0, 15), 0);
        Check.due("nothing came", y.last(0), -1);
        bulk(y, Check.point(3, 1) + Check.point(4, 2).substring(0, 15), 1);
        bulk(y, Check.point(4, 3) + "\0", 1);
        is(y, "sum({})", 0, 1, 6, ": . . . 1 3 .");
    }

    private static void bulkStops() {
        Check.sentence("8 bulk: up to the first that append() would refuse (for whatever reason)");
        WindowTables x = withSeries(1);
        x.retain(5);
        bulk(x, Check.point(4, 1) + Check.point(5, 2), 0);
        bulk(x, Check.point(-1, 1) + Check.point(5, 2), 0);
        bulk(x, Check.point(Long.MIN_VALUE, 1) + Check.point(5, 2), 0);
        bulk(x, Check.point(5, 1) + Check.point(5, 2) + Check.point(6, 3), 1);
        bulk(x, Check.point(6, 1) + Check.point(5, 2) + Check.point(7, 3), 1);
        bulk(x, Check.point(7, 1) + Check.point(MOST + 1, 2) + Check.point(8, 3), 1);
        bulk(x, Check.point(8, 1) + Check.point(-9, 2) + Check.point(10, 3), 1);
        bulk(x, Check.point(9, 1) + Check.point(MOST, 2), 2);
        counted(x, 6, 0, 0, 6);
        Check.sentence("8 bulk: (also with 4096 in the head)");
        WindowTables y = withSeries(2);
        for (int k = 0; k < 4094; k++) {
            y.append(1, k, 1);
        }
        bulk(y, Check.point(1, 1) + Check.point(2, 2) + Check.point(3, 3), 2);
        Check.due("a full head", y.count(1), 4096);
        Check.due("the third did not come", y.last(0), 2);
        bulk(y, Check.point(3, 1), 0);
        y.pack();
        bulk(y, Check.point(3, 1), 1);
    }

    private static void retains() {
        Check.sentence("10 retain: The horizon moves: how many points are seen no more");
        WindowTables x = withSeries(2);
        x.append(0, 3, 1);
        x.append(0, 4, 1);
        x.append(1, 4, 1);
        x.pack();
        x.append(0, 5, 1);
        x.append(1, 6, 1);
        x.delete(0, 3, 3);
        Check.due("deleted ones went before", x.retain(4), 0);
        Check.due("of both", x.retain(6), 3);
        Check.sentence("10 retain: (with the horizon that there is nothing is done)");
        Check.due("the same", x.retain(6), 0);
        counted(x, 1, 1, 1, 1);
        Check.sentence("10 retain: it is no time, or below the horizon");
        Check.refused("below it", IllegalArgumentException.class, () -> x.retain(5));
        Check.due("the last time", x.retain(MOST), 1);
        Check.refused("no time", IllegalArgumentException.class, () -> x.retain(MOST + 1));
        Check.due("the last time again", x.retain(MOST), 0);
        Check.due("a point at it", x.append(0, MOST, 1), 1);
        Check.refused("a point below it", IllegalArgumentException.class, () -> x.append(1, MOST - 1, 1));
    }

    private static void packs() {
        Check.sentence("17 pack: (with none nothing is done: 0, also with 32 parcels)");
        WindowTables x = withSeries(1);
        Check.due("none came", x.pack(), 0);
        counted(x, 0, 0, 0, 0);
        for (int k = 0; k < 32; k++) {
            x.append(0, k, k);
            Check.due("pack", x.pack(), 1);
            Check.due("none came", x.pack(), 0);
            Check.due("parcels", x.count(2), k + 1);
        }
        x.append(0, 40, 1);
        x.delete(0, 40, 40);
        Check.due("what came is deleted", x.pack(), 0);
        x.append(0, 41, 1);
        x.retain(42);
        Check.due("what came is below the horizon", x.pack(), 0);
        counted(x, 0, 32, 0, 0);
    }

    private static void counts() {
        Check.sentence("18 count: what = 0 series, 1 points in the head, 2 parcels, 3 scars, 4 points seen, in all");
        WindowTables x = withSeries(7);
        for (int t = 0; t < 6; t++) {
            x.append(t, t, t);
            x.pack();
        }
        for (int t = 0; t < 3; t++) {
            x.delete(t, t, t);
            x.append(6, 10 + t, 1);
            x.append(5, 10 + t, 1);
        }
        Check.due("series", x.count(0), 7);
        counted(x, 6, 6, 3, 9);
        Check.refused("count(-1)", IllegalArgumentException.class, () -> x.count(-1));
        Check.refused("count(5)", IllegalArgumentException.class, () -> x.count(5));
    }
}
