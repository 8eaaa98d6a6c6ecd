/**
 * Two objects that are made by the same calls, of which one gets a call that is refused, too: nothing that can be asked
 * of them afterwards may tell them apart.
 */
final class Twins {
    // Up to here the looks go time by time.
    private static final int LATEST = 127;

    interface Making {
        void make(WindowTables x);
    }

    interface Calling {
        long call(WindowTables x);
    }

    private interface Look {
        String at(WindowTables x);
    }

    // Most looks change the object, and so each has twins of its own.
    private static final Look[] LOOKS = {
        Twins::allThatCanBeRead, Twins::tapeLength, Twins::tapeAsSeries, Twins::tapeAsQuestion, Twins::tapeAsPoints,
        Twins::horizon, Twins::packing, Twins::pointByPoint
    };

    private Twins() {
    }

    static void refused(String call, Class<? extends RuntimeException> kind, Making making, Calling calling) {
        for (int i = 0; i < LOOKS.length; i++) {
            WindowTables called = new WindowTables();
            WindowTables left = new WindowTables();
            making.make(called);
            making.make(left);
            Check.refused(call, kind, () -> calling.call(called));
            Check.refused(call + " once more", kind, () -> calling.call(called));
            Check.due("look " + i + " after " + call, LOOKS[i].at(called), LOOKS[i].at(left));
        }
    }

    private static String allThatCanBeRead(WindowTables x) {
        StringBuilder all = new StringBuilder();
        for (int what = 0; what <= 4; what++) {
            all.append(x.count(what)).append(' ');
        }
        for (int s = 0; s < x.count(0); s++) {
            all.append(Check.textOf(x, s)).append(" to ").append(x.last(s)).append("; ");
        }
        all.append("fault ").append(x.fault(0)).append(" at ").append(x.fault(1));
        int rows = rows(x);
        int windows = windows(x);
        all.append(", table ").append(x.names()).append(' ').append(rows).append(' ').append(windows).append(' ');
        return all.append(Check.table(x, rows, windows)).toString();
    }

    private static int rows(WindowTables x) {
        for (int row = 0; row < 256; row++) {
            int r = row;
            if (Check.outcome(() -> x.text(r, 0, 0)).startsWith("throws")) {
                return row;
            }
        }
        return 256;
    }

    private static int windows(WindowTables x) {
        for (int window = 0; window < 64; window++) {
            int w = window;
            if (Check.outcome(() -> x.cell(0, w)).startsWith("throws")) {
                return window;
            }
        }
        return 64;
    }

    private static String tapeLength(WindowTables x) {
        String fed = Check.outcome(() -> x.feed(0, 0, 0, 0, 0));
        // A tape that is too long for feed() has its length told by the first end() that is not refused.
        for (int n = 65536; n > 65500 && fed.startsWith("throws"); n--) {
            int many = n;
            if (Check.outcome(() -> Check.end(x, many)).equals("0")) {
                return "full with " + many;
            }
        }
        return fed;
    }

    private static String tapeAsSeries(WindowTables x) {
        return Check.outcome(x::series) + " " + allThatCanBeRead(x);
    }

    private static String tapeAsQuestion(WindowTables x) {
        return x.ask(3, 20, 4) + " " + allThatCanBeRead(x);
    }

    private static String tapeAsPoints(WindowTables x) {
        return Check.outcome(() -> x.bulk(0)) + " " + allThatCanBeRead(x) + " " + values(x);
    }

    private static String values(WindowTables x) {
        x.end(0);
        return Check.answered(x, "sum by (s) ({})", 0, 2, 64) + " and " + Check.answered(x, "growth({})", 0, 2, 64);
    }

    /** The first time to which the horizon may move is the horizon. */
    private static String horizon(WindowTables x) {
        for (long time = 0; time <= LATEST; time++) {
            long t = time;
            String gone = Check.outcome(() -> x.retain(t));
            if (!gone.startsWith("throws")) {
                return time + ": " + gone;
            }
        }
        return "later";
    }

    private static String packing(WindowTables x) {
        return Check.outcome(x::pack) + " " + allThatCanBeRead(x) + " " + values(x);
    }

    /** What each delete answers tells which points are there, and the scars which of them are in parcels. */
    private static String pointByPoint(WindowTables x) {
        StringBuilder all = new StringBuilder();
        for (int s = 0; s < x.count(0); s++) {
            for (long time = 0; time <= LATEST; time++) {
                int row = s;
                long t = time;
                String gone = Check.outcome(() -> x.delete(row, t, t));
                all.append(gone.equals("0") ? "" : s + " at " + time + ": " + gone + ", " + x.count(3) + " scars; ");
            }
        }
        return all.append(allThatCanBeRead(x)).toString();
    }
}
