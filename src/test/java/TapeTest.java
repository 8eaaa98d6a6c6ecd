/** Promises 1, 2 and 3: a new object, feed, end. */
public final class TapeTest {
    public static void main(String[] args) {
        newObject();
        feeding();
        fullTape();
        ending();
        orderOfBytes();
        Check.finish("TapeTest");
    }

    private static void newObject() {
        WindowTables x = new WindowTables();
        Check.due("NONE", WindowTables.NONE, -1);
        Check.due("count(0)", x.count(0), 0);
        for (int what = 1; what <= 4; what++) {
            Check.due("count(" + what + ")", x.count(what), 0);
        }
        Check.due("names()", x.names(), WindowTables.NONE);
        Check.due("fault(0)", x.fault(0), 0);
        Check.due("fault(1)", x.fault(1), 0);
        Check.refused("letter(0, 0)", IndexOutOfBoundsException.class, () -> x.letter(0, 0));
        Check.refused("last(0)", IndexOutOfBoundsException.class, () -> x.last(0));
        Check.refused("text(0, 0, 0)", IndexOutOfBoundsException.class, () -> x.text(0, 0, 0));
        Check.refused("isThere(0, 0)", IndexOutOfBoundsException.class, () -> x.isThere(0, 0) ? 1 : 0);
        Check.refused("cell(0, 0)", IndexOutOfBoundsException.class, () -> x.cell(0, 0));
        Check.refused("end(1)", IllegalArgumentException.class, () -> Check.end(x, 1));
        Check.due("pack()", x.pack(), 0);
        Check.due("retain(0)", x.retain(0), 0);
    }

    private static void feeding() {
        WindowTables x = new WindowTables();
        for (int k = 1; k <= 200; k++) {
            Check.due("feed " + k, x.feed(k, -k, 0, Integer.MIN_VALUE, Integer.MAX_VALUE), 20 * k);
        }
    }

    private static void fullTape() {
        WindowTables x = new WindowTables();
        for (int k = 1; k <= 3276; k++) {
            Check.due("feed " + k, x.feed(0x20202020, 0x20202020, 0x20202020, 0x20202020, 0x20202020), 20 * k);
        }
        Check.refused("feed beyond 65536", UnsupportedOperationException.class, () -> x.feed(1, 2, 3, 4, 5));
        x.end(65517);
        Check.refused("feed to 65537", UnsupportedOperationException.class, () -> x.feed(1, 2, 3, 4, 5));
        x.end(65517);
        x.end(65516);
        Check.due("feed to 65536", x.feed(0x20202020, 0x20202020, 0x20202020, 0x20202020, 0x20202035), 65536);
        Check.refused("feed to 65556", UnsupportedOperationException.class, () -> x.feed(1, 2, 3, 4, 5));
        Check.due("ask of blanks and a number", x.ask(0, 1, 1), 1);
        Check.due("the number", x.cell(0, 0), 5);
        Check.due("feed after it", x.feed(0, 0, 0, 0, 0), 20);
    }

    private static void ending() {
        WindowTables x = new WindowTables();
        x.feed(0x613D622C, 0x633D6421, 0, 0, 0);
        Check.refused("end(21)", IllegalArgumentException.class, () -> Check.end(x, 21));
        Check.refused("end(-1)", IllegalArgumentException.class, () -> Check.end(x, -1));
        Check.refused("end(least)", IllegalArgumentException.class, () -> Check.end(x, Integer.MIN_VALUE));
        Check.refused("end(most)", IllegalArgumentException.class, () -> Check.end(x, Integer.MAX_VALUE));
        Check.due("end(20)", Check.end(x, 20), 0);
        Check.due("end(7)", Check.end(x, 7), 0);
        Check.refused("end(8)", IllegalArgumentException.class, () -> Check.end(x, 8));
        Check.due("end(7) again", Check.end(x, 7), 0);
        Check.due("series()", x.series(), 0);
        Check.due("its text", Check.textOf(x, 0), "a=b,c=d");
        Check.refused("end(1) on an empty tape", IllegalArgumentException.class, () -> Check.end(x, 1));
        Check.due("end(0) on an empty tape", Check.end(x, 0), 0);
    }

    private static void orderOfBytes() {
        WindowTables x = new WindowTables();
        x.feed(0x61626364, 0x65663D67, 0x68696A6B, 0x6C6D6E6F, 0x70717273);
        Check.due("series()", x.series(), 0);
        Check.due("its text", Check.textOf(x, 0), "abcdef=ghijklmnopqrs");
        x.feed(0x613D7F00, 0, 0, 0, 0);
        x.end(3);
        Check.due("a byte 127", x.series(), WindowTables.NONE);
        Check.due("its place", x.fault(1), 2);
        x.feed(0x613DFF00, 0, 0, 0, 0);
        x.end(3);
        Check.due("a byte 255", x.series(), WindowTables.NONE);
        Check.due("its place", x.fault(1), 2);
    }
}
