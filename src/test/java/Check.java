import java.nio.charset.StandardCharsets;

/** What all tests use: comparing answers, and putting texts on the tape of an object. */
final class Check {
    // No text has so many bytes: a class that never says NONE must not keep a test running.
    private static final int ENOUGH = 1000;

    private static int checks = 0;
    private static int wrong = 0;
    private static String sentence = "";
    private static int checksBefore = 0;

    interface Call {
        long answer();
    }

    private Check() {
    }

    /** The words of the document that the checks from here on hold the class to; each must have one. */
    static void sentence(String words) {
        closeSentence();
        sentence = words;
    }

    private static void closeSentence() {
        if (!sentence.isEmpty() && checks == checksBefore) {
            wrong++;
            System.out.println("nothing looks at: " + sentence);
        }
        sentence = "";
        checksBefore = checks;
    }

    static void due(String call, long got, long want) {
        due(call, Long.toString(got), Long.toString(want));
    }

    static void due(String call, String got, String want) {
        checks++;
        if (!got.equals(want)) {
            wrong++;
            String of = sentence.isEmpty() ? "" : "[" + sentence + "] ";
            System.out.println(of + call + " answered " + got + ", due is " + want);
        }
    }

    static void due(String call, boolean got, boolean want) {
        due(call, Boolean.toString(got), Boolean.toString(want));
    }

    /** The exception must be of that very class, not of one below it that the machine threw. */
    static void refused(String call, Class<? extends RuntimeException> kind, Call run) {
        due(call, outcome(run), "throws " + kind.getSimpleName());
    }

    static String outcome(Call run) {
        try {
            return Long.toString(run.answer());
        } catch (RuntimeException e) {
            return "throws " + e.getClass().getSimpleName();
        }
    }

    static void finish(String test) {
        closeSentence();
        System.out.println(test + ": " + checks + " answers, " + wrong + " not as due");
        if (wrong != 0 || checks == 0) {
            System.exit(1);
        }
    }

    /**
     * Puts the bytes of a text behind those that the tape of x has. Feeding goes by twenties: what is more than these
     * comes first, so that a text may fill the tape to its last byte.
     */
    static void feed(WindowTables x, int had, String text) {
        byte[] bytes = text.getBytes(StandardCharsets.ISO_8859_1);
        int more = bytes.length % 20;
        if (more > 0) {
            feedTwenty(x, bytes, 0, more);
        }
        x.end(had + more);
        for (int at = more; at < bytes.length; at += 20) {
            feedTwenty(x, bytes, at, 20);
        }
    }

    private static void feedTwenty(WindowTables x, byte[] bytes, int at, int many) {
        int[] five = new int[5];
        for (int i = 0; i < 20; i++) {
            five[i / 4] = five[i / 4] << 8 | (i < many ? bytes[at + i] & 255 : 0);
        }
        x.feed(five[0], five[1], five[2], five[3], five[4]);
    }

    static void feed(WindowTables x, String text) {
        feed(x, 0, text);
    }

    /** As a call that answers, for refused() and outcome(). */
    static long end(WindowTables x, int n) {
        x.end(n);
        return 0;
    }

    static int series(WindowTables x, String text) {
        feed(x, text);
        return x.series();
    }

    static int ask(WindowTables x, String question, long from, long width, int n) {
        feed(x, question);
        return x.ask(from, width, n);
    }

    /** A time and a value as the sixteen bytes that bulk() reads. */
    static String point(long time, long value) {
        StringBuilder text = new StringBuilder();
        for (int shift = 56; shift >= 0; shift -= 8) {
            text.append((char) (time >> shift & 255));
        }
        for (int shift = 56; shift >= 0; shift -= 8) {
            text.append((char) (value >> shift & 255));
        }
        return text.toString();
    }

    static String textOf(WindowTables x, int s) {
        StringBuilder text = new StringBuilder();
        for (int k = 0; k < ENOUGH && x.letter(s, k) != WindowTables.NONE; k++) {
            text.append((char) x.letter(s, k));
        }
        return text.toString();
    }

    /** The table of x: its rows with ; between them, texts with , between them, then the cells; . for nothing. */
    static String table(WindowTables x, int rows, int windows) {
        StringBuilder all = new StringBuilder();
        for (int row = 0; row < rows; row++) {
            all.append(row == 0 ? "" : "; ");
            for (int k = 0; k < x.names(); k++) {
                all.append(k == 0 ? "" : ",");
                for (int i = 0; i < ENOUGH && x.text(row, k, i) != WindowTables.NONE; i++) {
                    all.append((char) x.text(row, k, i));
                }
            }
            all.append(':');
            for (int window = 0; window < windows; window++) {
                all.append(' ').append(x.isThere(row, window) ? Long.toString(x.cell(row, window)) : ".");
                if (!x.isThere(row, window) && x.cell(row, window) != 0) {
                    all.append("(not 0)");
                }
            }
        }
        return all.toString();
    }

    static String answered(WindowTables x, String question, long from, long width, int n) {
        int rows = ask(x, question, from, width, n);
        if (rows == WindowTables.NONE) {
            return "fault " + x.fault(0) + " at " + x.fault(1);
        }
        return table(x, rows, n);
    }
}
