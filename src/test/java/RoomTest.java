import com.sun.management.ThreadMXBean;
import java.lang.management.ManagementFactory;

/** All calls of one run live in one room of 7.3 million fields and elements: dear runs of 512 calls must not fill it. */
public final class RoomTest {
    // A field or an element has at least one byte, so that so many bytes are never more of them.
    private static final long ROOM = 7_300_000;

    private static int calls;

    public static void main(String[] args) {
        // What the machine makes once, it makes here.
        manySeries();
        Check.due("room of many series", measured(RoomTest::manySeries) < ROOM ? 1 : 0, 1);
        Check.due("room of many questions", measured(RoomTest::manyQuestions) < ROOM ? 1 : 0, 1);
        Check.due("room of a long tape", measured(RoomTest::longTape) < ROOM ? 1 : 0, 1);
        Check.due("room of many objects", measured(RoomTest::manyObjects) < ROOM ? 1 : 0, 1);
        Check.due("room of the widest tables", measured(RoomTest::widestTables) < ROOM ? 1 : 0, 1);
        Check.finish("RoomTest");
    }

    private static long measured(Runnable run) {
        ThreadMXBean threads = (ThreadMXBean) ManagementFactory.getThreadMXBean();
        long id = Thread.currentThread().getId();
        calls = 0;
        long before = threads.getThreadAllocatedBytes(id);
        run.run();
        long bytes = threads.getThreadAllocatedBytes(id) - before;
        System.out.println(calls + " calls made " + bytes + " bytes");
        return bytes;
    }

    private static void feed(WindowTables x, String twenty) {
        int[] five = new int[5];
        for (int i = 0; i < 20; i++) {
            five[i / 4] = five[i / 4] << 8 | twenty.charAt(i);
        }
        calls++;
        x.feed(five[0], five[1], five[2], five[3], five[4]);
    }

    private static void addSeries(WindowTables x, int many) {
        char[] text = "??=b,C=d,EF=gh,i=?x?".toCharArray();
        for (int s = 0; s < many; s++) {
            text[0] = (char) ('a' + s / 16);
            text[1] = (char) ('a' + s % 16);
            text[17] = text[0];
            text[19] = text[1];
            feed(x, new String(text));
            calls++;
            if (x.series() != s) {
                throw new IllegalStateException("no new series " + s);
            }
        }
    }

    private static void manySeries() {
        addSeries(new WindowTables(), 256);
    }

    private static void manyQuestions() {
        WindowTables x = new WindowTables();
        addSeries(x, 64);
        for (int s = 0; s < 64; s++) {
            calls++;
            x.append(s, s, s);
        }
        String question = "first by(i)({})*(1+(";
        while (calls + 5 <= 512) {
            feed(x, question);
            feed(x, "latest by(i)({})+ 1 ");
            feed(x, "))                  ");
            calls++;
            x.ask(0, 1, 64);
        }
    }

    private static void longTape() {
        WindowTables x = new WindowTables();
        for (int k = 0; k < 511; k++) {
            feed(x, "1+1+1+1+1+1+1+1+1+1+");
        }
        calls++;
        x.ask(0, 1, 64);
    }

    private static void manyObjects() {
        for (int k = 0; k < 256; k++) {
            calls++;
            new WindowTables().names();
        }
    }

    /** More calls than an object is used for: what all limits of the document allow at once. */
    private static void widestTables() {
        WindowTables x = new WindowTables();
        addSeries(x, 256);
        for (int s = 0; s < 256; s++) {
            calls++;
            x.append(s, s % 64, s);
        }
        for (int k = 0; k < 8; k++) {
            feed(x, "latest by(i)({})+   ");
            feed(x, "latest by(i)({})* ( ");
        }
        feed(x, "latest by(i)({})+   ");
        feed(x, "latest by(i)({})*   ");
        feed(x, "latest by(i)({})))))");
        feed(x, "))))                ");
        calls++;
        if (x.ask(0, 1, 64) != 256) {
            throw new IllegalStateException("not 256 rows");
        }
    }
}
