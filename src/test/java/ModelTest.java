import java.nio.charset.StandardCharsets;
import java.util.Random;

/** All promises: runs of calls, drawn from seeds, in which each answer must be the model's. */
public final class ModelTest {
    private static final long MOST = 1099511627775L;
    private static final String[] NAMES = {"a", "b", "ab", "by", "sum", "_x1", "zone"};
    private static final String[] VALUES = {"1", "2", "12", "x", "x.y", "~", "value-of-more-bytes"};
    private static final String[] FUNCS = {"sum", "count", "least", "most", "first", "latest", "growth"};

    private final Random random;
    private final long seed;
    private final WindowTables x = new WindowTables();
    private final Model model = new Model();
    private long clock = 0;
    private int calls = 0;

    private ModelTest(long seed) {
        this.seed = seed;
        this.random = new Random(seed);
    }

    public static void main(String[] args) {
        int runs = args.length > 1 ? Integer.parseInt(args[1]) : 1500;
        for (long seed = 1; seed <= runs; seed++) {
            new ModelTest(seed).run();
        }
        Check.finish("ModelTest");
    }

    private void run() {
        int seriesAtFirst = random.nextInt(12);
        for (int i = 0; i < seriesAtFirst; i++) {
            feed(series());
            both("series()", x::series, model::series);
        }
        int steps = 60 + random.nextInt(120);
        for (int i = 0; i < steps; i++) {
            step();
        }
    }

    private void both(String call, Check.Call real, Check.Call due) {
        calls++;
        Check.due("seed " + seed + " call " + calls + ": " + call, Check.outcome(real), Check.outcome(due));
    }

    private void step() {
        switch (random.nextInt(16)) {
            case 0:
                feed(random.nextInt(3) == 0 ? broken(series()) : series());
                both("series()", x::series, model::series);
                faults();
                letters();
                break;
            case 1:
            case 2:
            case 3:
            case 4:
            case 5:
                append();
                break;
            case 6:
                bulk();
                break;
            case 7:
                delete();
                break;
            case 8:
                if (random.nextInt(3) == 0) {
                    long time = random.nextInt(5) == 0 ? odd() : clock - random.nextInt(60);
                    both("retain(" + time + ")", () -> x.retain(time), () -> model.retain(time));
                }
                break;
            case 9:
                both("pack()", x::pack, model::pack);
                break;
            case 10:
                oddCalls();
                break;
            default:
                ask();
        }
        counts();
    }

    private int someSeries() {
        int many = model.count(0);
        return random.nextInt(20) == 0 || many == 0 ? random.nextInt(many + 3) - 1 : random.nextInt(many);
    }

    private long odd() {
        long[] all = {0, -1, 1, MOST, MOST + 1, Long.MIN_VALUE, Long.MAX_VALUE, MOST - 1, 64, 65};
        return all[random.nextInt(all.length)];
    }

    private long value() {
        switch (random.nextInt(12)) {
            case 0:
                return Long.MIN_VALUE;
            case 1:
                return Long.MAX_VALUE;
            case 2:
                return random.nextLong();
            default:
                return random.nextInt(21) - 6;
        }
    }

    private void append() {
        int s = someSeries();
        clock += random.nextInt(4);
        long time = random.nextInt(60) == 0 ? odd() : clock;
        long value = value();
        both("append(" + s + ", " + time + ", " + value + ")",
                () -> x.append(s, time, value), () -> model.append(s, time, value));
    }

    private void bulk() {
        int s = someSeries();
        StringBuilder text = new StringBuilder();
        int many = random.nextInt(6);
        for (int i = 0; i < many; i++) {
            clock += random.nextInt(4);
            text.append(Check.point(random.nextInt(60) == 0 ? odd() : clock, value()));
        }
        text.append("leftover".substring(0, random.nextInt(8)));
        feed(text.toString());
        both("bulk(" + s + ")", () -> x.bulk(s), () -> model.bulk(s));
    }

    private void delete() {
        int s = someSeries();
        long from = random.nextInt(8) == 0 ? odd() : clock - random.nextInt(40);
        long to = random.nextInt(8) == 0 ? odd() : from + random.nextInt(12) - 1;
        both("delete(" + s + ", " + from + ", " + to + ")",
                () -> x.delete(s, from, to), () -> model.delete(s, from, to));
    }

    private void counts() {
        for (int what = 0; what <= 4; what++) {
            int w = what;
            both("count(" + w + ")", () -> x.count(w), () -> model.count(w));
        }
        int s = someSeries();
        both("last(" + s + ")", () -> x.last(s), () -> model.last(s));
    }

    private void oddCalls() {
        int n = random.nextInt(40) - 3;
        both("end(" + n + ")", () -> {
            x.end(n);
            return 0;
        }, () -> {
            model.end(n);
            return 0;
        });
        int what = random.nextInt(9) - 2;
        both("count(" + what + ")", () -> x.count(what), () -> model.count(what));
        both("fault(" + what + ")", () -> x.fault(what), () -> model.fault(what));
        table(3, 3);
    }

    private void faults() {
        both("fault(0)", () -> x.fault(0), () -> model.fault(0));
        both("fault(1)", () -> x.fault(1), () -> model.fault(1));
    }

    private void letters() {
        int s = someSeries();
        for (int k = -1; k < 60; k++) {
            int at = k;
            both("letter(" + s + ", " + at + ")", () -> x.letter(s, at), () -> model.letter(s, at));
        }
    }

    private void feed(String text) {
        byte[] bytes = text.getBytes(StandardCharsets.ISO_8859_1);
        both("end(0)", () -> {
            x.end(0);
            return 0;
        }, () -> {
            model.end(0);
            return 0;
        });
        for (int at = 0; at < bytes.length; at += 20) {
            int[] five = new int[5];
            for (int i = 0; i < 20; i++) {
                five[i / 4] = five[i / 4] << 8 | (at + i < bytes.length ? bytes[at + i] & 255 : 0);
            }
            both("feed", () -> x.feed(five[0], five[1], five[2], five[3], five[4]),
                    () -> model.feed(five[0], five[1], five[2], five[3], five[4]));
        }
        x.end(bytes.length);
        model.end(bytes.length);
    }

    private <T> T any(T[] of) {
        return of[random.nextInt(of.length)];
    }

    private String series() {
        StringBuilder text = new StringBuilder();
        int many = random.nextInt(15) == 0 ? 1 + random.nextInt(7) : 1 + random.nextInt(3);
        for (int i = 0; i < many; i++) {
            String name = i > 2 ? "n" + i : any(NAMES);
            text.append(i == 0 ? "" : ",").append(name).append('=').append(any(VALUES));
        }
        return text.toString();
    }

    private String broken(String text) {
        StringBuilder all = new StringBuilder(text);
        for (int i = 0; i <= random.nextInt(2); i++) {
            int at = random.nextInt(all.length() + 1);
            String bytes = " ,=(){}\"!^?+-*/%a1_\0\u00fe";
            char b = bytes.charAt(random.nextInt(bytes.length()));
            switch (random.nextInt(4)) {
                case 0:
                    all.insert(at, b);
                    break;
                case 1:
                    all.setLength(at);
                    break;
                case 2:
                    all.insert(at, "aaaaaaaaaaaaaaaaaaaaaaaaaaa", 0, 20 + random.nextInt(8));
                    break;
                default:
                    if (at < all.length()) {
                        all.setCharAt(at, b);
                    }
            }
        }
        return all.toString();
    }

    private void ask() {
        String by = random.nextInt(4) == 0 ? null : byNames();
        String question = exp(random.nextInt(4), by);
        if (random.nextInt(5) == 0) {
            question = broken(question);
        }
        feed(question);
        long from = random.nextInt(30) == 0 ? odd() : Math.max(0, clock - random.nextInt(120));
        long width = random.nextInt(30) == 0 ? odd() : 1 + random.nextInt(40);
        int n = random.nextInt(30) == 0 ? random.nextInt(70) - 2 : 1 + random.nextInt(5);
        both("ask(" + from + ", " + width + ", " + n + ") of " + question,
                () -> x.ask(from, width, n), () -> model.ask(from, width, n));
        faults();
        table(model.names() == WindowTables.NONE ? 1 : 12, Math.min(n + 1, 8));
    }

    private void table(int rows, int windows) {
        both("names()", x::names, model::names);
        for (int row = -1; row <= rows; row++) {
            int r = row;
            if (Check.outcome(() -> model.text(r, 0, 0)).startsWith("throws")) {
                both("text", () -> x.text(r, 0, 0), () -> model.text(r, 0, 0));
                both("cell", () -> x.cell(r, 0), () -> model.cell(r, 0));
                continue;
            }
            for (int w = -1; w <= windows; w++) {
                int window = w;
                both("isThere", () -> x.isThere(r, window) ? 1 : 0, () -> model.isThere(r, window) ? 1 : 0);
                both("cell", () -> x.cell(r, window), () -> model.cell(r, window));
            }
            for (int k = -1; k <= model.names(); k++) {
                for (int i = -1; i < 5; i++) {
                    int name = k;
                    int at = i;
                    both("text", () -> x.text(r, name, at), () -> model.text(r, name, at));
                }
            }
        }
    }

    private String byNames() {
        StringBuilder names = new StringBuilder();
        int many = 1 + random.nextInt(random.nextInt(10) == 0 ? 7 : 2);
        int first = random.nextInt(NAMES.length);
        for (int i = 0; i < many; i++) {
            names.append(i == 0 ? "" : ",").append(random.nextInt(40) == 0 ? "a" : NAMES[(first + i) % NAMES.length]);
        }
        return names.toString();
    }

    private String blank() {
        return random.nextInt(3) == 0 ? " " : "";
    }

    private String exp(int depth, String by) {
        StringBuilder text = new StringBuilder(factor(depth, by));
        int more = random.nextInt(3);
        for (int i = 0; i < more; i++) {
            text.append(blank()).append("+-*/%".charAt(random.nextInt(5))).append(blank()).append(factor(depth, by));
        }
        return text.toString();
    }

    private String factor(int depth, String by) {
        int which = random.nextInt(depth > 0 ? 8 : 5);
        if (which == 0) {
            return number();
        }
        if (which < 5) {
            return func(by);
        }
        if (which == 5) {
            return "-" + blank() + factor(depth - 1, by);
        }
        if (which == 6 && random.nextInt(6) == 0) {
            int many = 5 + random.nextInt(5);
            return "(-".repeat(many / 2) + factor(0, by) + ")".repeat(many / 2);
        }
        return "(" + exp(depth - 1, by) + ")";
    }

    private String number() {
        String[] all = {"0", "1", "2", "007", "9223372036854775807", "9223372036854775808", "4294967296"};
        return random.nextInt(3) == 0 ? any(all) : "" + random.nextInt(5);
    }

    private String func(String by) {
        StringBuilder text = new StringBuilder(any(FUNCS));
        String names = random.nextInt(25) == 0 ? byNames() : random.nextInt(4) == 0 ? null : by;
        if (names != null) {
            text.append(" by").append(blank()).append('(').append(names).append(')').append(blank());
        }
        text.append('(').append(blank()).append('{');
        int many = random.nextInt(3);
        String[] signs = {"=", "!=", "^=", "!^"};
        for (int i = 0; i < many; i++) {
            String value = random.nextInt(4) == 0 ? "" : any(VALUES);
            value = value.substring(0, random.nextInt(3) == 0 ? value.length() / 2 : value.length());
            text.append(i == 0 ? "" : ",").append(any(NAMES)).append(blank()).append(any(signs));
            text.append(blank()).append('"').append(value).append('"').append(blank());
        }
        return text.append('}').append(blank()).append(')').toString();
    }
}
