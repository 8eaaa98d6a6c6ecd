import java.util.ArrayList;
import java.util.Comparator;
import java.util.List;
import java.util.Map;
import java.util.TreeMap;
import java.util.TreeSet;

/** The document's words in their plainest form, without a thought of room or speed: what WindowTables is held against. */
final class Model {
    private static final long MOST_TIME = 1099511627775L;

    private static final class Point {
        final int series;
        final long time;
        final long value;
        boolean deleted;
        int parcel = -1;

        Point(int series, long time, long value) {
            this.series = series;
            this.time = time;
            this.value = value;
        }
    }

    private static final class Fault extends RuntimeException {
        private static final long serialVersionUID = 1L;
        final int code;
        final int place;

        Fault(int code, int place) {
            this.code = code;
            this.place = place;
        }
    }

    private static final Comparator<List<String>> BY_TEXTS = (a, b) -> {
        for (int i = 0; i < a.size(); i++) {
            int c = a.get(i).compareTo(b.get(i));
            if (c != 0) {
                return c;
            }
        }
        return 0;
    };

    private static final class Table {
        final List<String> names;
        final TreeMap<List<String>, Long[]> rows = new TreeMap<>(BY_TEXTS);

        Table(List<String> names) {
            this.names = names;
        }

        void put(List<String> texts, Long[] cells) {
            for (Long c : cells) {
                if (c != null) {
                    rows.put(texts, cells);
                    return;
                }
            }
        }
    }

    private String tape = "";
    private final List<TreeMap<String, String>> series = new ArrayList<>();
    private final List<Point> points = new ArrayList<>();
    private final List<Long> lasts = new ArrayList<>();
    private long horizon = 0;
    private int parcels = 0;
    private int scars = 0;
    private int faultCode = 0;
    private int faultPlace = 0;
    private Table table;
    private List<List<String>> rowTexts = new ArrayList<>();
    private int windows;

    // ---- the tape

    int feed(int a, int b, int c, int d, int e) {
        if (tape.length() + 20 > 65536) {
            throw new UnsupportedOperationException();
        }
        StringBuilder more = new StringBuilder(tape);
        for (int number : new int[] {a, b, c, d, e}) {
            for (int i = 3; i >= 0; i--) {
                more.append((char) (number >>> 8 * i & 255));
            }
        }
        tape = more.toString();
        return tape.length();
    }

    void end(int n) {
        if (n < 0 || n > tape.length()) {
            throw new IllegalArgumentException();
        }
        tape = tape.substring(0, n);
    }

    // ---- series

    private static boolean isWord(char c) {
        return c >= 33 && c <= 126 && "\"=,(){}".indexOf(c) < 0;
    }

    private static TreeMap<String, String> readSeries(String text) {
        TreeMap<String, String> labels = new TreeMap<>();
        StringBuilder word = new StringBuilder();
        String name = null;
        int start = 0;
        for (int i = 0; i <= text.length(); i++) {
            char c = i < text.length() ? text.charAt(i) : ',';
            boolean atEnd = i == text.length();
            if (!atEnd && isWord(c)) {
                if (word.length() == 24) {
                    throw new Fault(7, i);
                }
                word.append(c);
            } else if (word.length() > 0 && name == null && c == '=') {
                if (labels.containsKey(word.toString()) || labels.size() == 6) {
                    throw new Fault(8, start);
                }
                name = word.toString();
                word.setLength(0);
            } else if (word.length() > 0 && name != null && c == ',') {
                labels.put(name, word.toString());
                name = null;
                word.setLength(0);
                start = i + 1;
            } else {
                throw new Fault(7, i);
            }
        }
        return labels;
    }

    int series() {
        TreeMap<String, String> labels;
        try {
            labels = readSeries(tape);
        } catch (Fault f) {
            tape = "";
            faultCode = f.code;
            faultPlace = f.place;
            return -1;
        }
        int number = series.indexOf(labels);
        if (number < 0 && series.size() == 256) {
            throw new UnsupportedOperationException();
        }
        if (number < 0) {
            number = series.size();
            series.add(labels);
            lasts.add(-1L);
        }
        tape = "";
        faultCode = 0;
        faultPlace = 0;
        return number;
    }

    int fault(int what) {
        if (what < 0 || what > 1) {
            throw new IndexOutOfBoundsException();
        }
        return what == 0 ? faultCode : faultPlace;
    }

    private void needSeries(int s) {
        if (s < 0 || s >= series.size()) {
            throw new IndexOutOfBoundsException();
        }
    }

    int letter(int s, int k) {
        needSeries(s);
        StringBuilder text = new StringBuilder();
        for (Map.Entry<String, String> label : series.get(s).entrySet()) {
            text.append(text.length() == 0 ? "" : ",").append(label.getKey()).append('=').append(label.getValue());
        }
        return k < 0 || k >= text.length() ? -1 : text.charAt(k);
    }

    // ---- points

    private boolean isSeen(Point p) {
        return !p.deleted && p.time >= horizon;
    }

    private int headSize() {
        int n = 0;
        for (Point p : points) {
            n += isSeen(p) && p.parcel < 0 ? 1 : 0;
        }
        return n;
    }

    private int seenSize() {
        int n = 0;
        for (Point p : points) {
            n += isSeen(p) ? 1 : 0;
        }
        return n;
    }

    int append(int s, long time, long value) {
        needSeries(s);
        if (time < 0 || time > MOST_TIME || time <= lasts.get(s) || time < horizon) {
            throw new IllegalArgumentException();
        }
        if (headSize() >= 4096) {
            throw new UnsupportedOperationException();
        }
        points.add(new Point(s, time, value));
        lasts.set(s, time);
        return headSize();
    }

    private static long number(String bytes) {
        long n = 0;
        for (int i = 0; i < bytes.length(); i++) {
            n = n * 256 + bytes.charAt(i);
        }
        return n;
    }

    int bulk(int s) {
        needSeries(s);
        String text = tape;
        tape = "";
        int came = 0;
        try {
            while (text.length() >= 16) {
                append(s, number(text.substring(0, 8)), number(text.substring(8, 16)));
                came++;
                text = text.substring(16);
            }
        } catch (IllegalArgumentException | UnsupportedOperationException e) {
            return came;
        }
        return came;
    }

    int delete(int s, long from, long to) {
        needSeries(s);
        if (from > to) {
            throw new IllegalArgumentException();
        }
        List<Point> gone = new ArrayList<>();
        boolean scar = false;
        for (Point p : points) {
            if (p.series == s && isSeen(p) && p.time >= from && p.time <= to) {
                gone.add(p);
                scar |= p.parcel >= 0;
            }
        }
        if (scar && scars == 64) {
            throw new UnsupportedOperationException();
        }
        scars += scar ? 1 : 0;
        for (Point p : gone) {
            p.deleted = true;
        }
        return gone.size();
    }

    int retain(long time) {
        if (time < 0 || time > MOST_TIME || time < horizon) {
            throw new IllegalArgumentException();
        }
        int before = seenSize();
        horizon = time;
        return before - seenSize();
    }

    long last(int s) {
        needSeries(s);
        return lasts.get(s);
    }

    int pack() {
        int n = headSize();
        if (n == 0) {
            return 0;
        }
        if (parcels == 32) {
            throw new UnsupportedOperationException();
        }
        for (Point p : points) {
            if (isSeen(p) && p.parcel < 0) {
                p.parcel = parcels;
            }
        }
        parcels++;
        return n;
    }

    int count(int what) {
        int[] all = {series.size(), headSize(), parcels, scars, seenSize()};
        if (what < 0 || what > 4) {
            throw new IllegalArgumentException();
        }
        return all[what];
    }

    // ---- questions: tokens

    private static final class Token {
        final char kind; // n number, w name, t text, . end, ? none, else its own sign (a != b ^= c !^)
        final int place;
        final String text;

        Token(char kind, int place, String text) {
            this.kind = kind;
            this.place = place;
            this.text = text;
        }
    }

    private static List<Token> tokens(String q) {
        List<Token> all = new ArrayList<>();
        int i = 0;
        while (true) {
            while (i < q.length() && q.charAt(i) == ' ') {
                i++;
            }
            if (i == q.length()) {
                all.add(new Token('.', i, ""));
                return all;
            }
            Token t = token(q, i);
            all.add(t);
            if (t.kind == '?') {
                return all;
            }
            i += t.text.length();
        }
    }

    private static Token token(String q, int i) {
        String rest = q.substring(i);
        String digits = beginning(rest, "0123456789");
        if (!digits.isEmpty()) {
            boolean fits = new java.math.BigInteger(digits).bitLength() <= 63;
            return new Token(fits ? 'n' : '?', i, digits);
        }
        String name = beginning(rest, "abcdefghijklmnopqrstuvwxyzABCDEFGHIJKLMNOPQRSTUVWXYZ_0123456789");
        if (!name.isEmpty()) {
            return new Token('w', i, name);
        }
        if (rest.startsWith("\"")) {
            for (int k = 1; k < rest.length(); k++) {
                char c = rest.charAt(k);
                if (c == '"') {
                    return new Token('t', i, rest.substring(0, k + 1));
                }
                if (c < 32 || c > 126) {
                    break;
                }
            }
            return new Token('?', i, "");
        }
        String[] twos = {"!=", "^=", "!^"};
        for (int k = 0; k < 3; k++) {
            if (rest.startsWith(twos[k])) {
                return new Token("abc".charAt(k), i, twos[k]);
            }
        }
        char c = rest.charAt(0);
        return "+-*/%(){},=".indexOf(c) >= 0 ? new Token(c, i, "" + c) : new Token('?', i, "");
    }

    private static String beginning(String text, String of) {
        int k = 0;
        while (k < text.length() && of.indexOf(text.charAt(k)) >= 0) {
            k++;
        }
        return text.substring(0, k);
    }

    // ---- questions: their trees

    private static final class Node {
        char kind; // n number, f func, ~ turned round, else an operator
        int place;
        String text;
        final List<String> names = new ArrayList<>();
        final List<String[]> matches = new ArrayList<>();
        Node left;
        Node right;
    }

    private List<Token> line;
    private int next;

    private Token look() {
        return line.get(next);
    }

    private Token take(String kinds) {
        Token t = look();
        if (t.kind == '?') {
            throw new Fault(1, t.place);
        }
        if (kinds.indexOf(t.kind) < 0) {
            throw new Fault(2, t.place);
        }
        next++;
        return t;
    }

    private Node level(String operators, int open) {
        Node all = operators.equals("+-") ? level("*/%", open) : factor(open);
        while (operators.indexOf(look().kind) >= 0) {
            Node n = new Node();
            n.kind = look().kind;
            n.place = take(operators).place;
            n.left = all;
            n.right = operators.equals("+-") ? level("*/%", open) : factor(open);
            all = n;
        }
        return all;
    }

    private Node factor(int open) {
        Node n = new Node();
        Token t = take("nw(-");
        n.kind = t.kind;
        n.text = t.text;
        if ((t.kind == '(' || t.kind == '-') && open + 1 > 8) {
            throw new Fault(3, t.place);
        }
        if (t.kind == '(') {
            n = level("+-", open + 1);
            take(")");
        } else if (t.kind == '-') {
            n.kind = '~';
            n.left = factor(open + 1);
        } else if (t.kind == 'w') {
            if (!List.of("sum", "count", "least", "most", "first", "latest", "growth").contains(t.text)) {
                throw new Fault(2, t.place);
            }
            n.kind = 'f';
            func(n);
        }
        return n;
    }

    private void func(Node n) {
        if (look().kind == 'w' && look().text.equals("by")) {
            next++;
            take("(");
            do {
                Token name = take("w");
                if (n.names.contains(name.text) || n.names.size() == 6) {
                    throw new Fault(4, name.place);
                }
                n.names.add(name.text);
            } while (take(",)").kind == ',');
        }
        take("(");
        take("{");
        if (look().kind == '}') {
            next++;
        } else {
            do {
                String name = take("w").text;
                String sign = take("=abc").text;
                String text = take("t").text;
                n.matches.add(new String[] {name, sign, text.substring(1, text.length() - 1)});
            } while (take(",}").kind == ',');
        }
        take(")");
    }

    // ---- questions: their tables

    private Table tableOf(Node n, long from, long width) {
        switch (n.kind) {
            case 'n': {
                Table t = new Table(List.of());
                Long[] cells = new Long[windows];
                java.util.Arrays.fill(cells, Long.parseLong(n.text));
                t.put(List.of(), cells);
                return t;
            }
            case 'f':
                return tableOfFunc(n, from, width);
            case '~': {
                Table a = tableOf(n.left, from, width);
                Table t = new Table(a.names);
                for (Map.Entry<List<String>, Long[]> row : a.rows.entrySet()) {
                    Long[] cells = new Long[windows];
                    for (int w = 0; w < windows; w++) {
                        cells[w] = row.getValue()[w] == null ? null : Long.valueOf(-row.getValue()[w]);
                    }
                    t.put(row.getKey(), cells);
                }
                return t;
            }
            default:
                return join(n, tableOf(n.left, from, width), tableOf(n.right, from, width));
        }
    }

    private Table join(Node n, Table a, Table b) {
        boolean same = a.names.equals(b.names);
        if (!same && !a.names.isEmpty() && !b.names.isEmpty()) {
            throw new Fault(5, n.place);
        }
        Table t = new Table(a.names.isEmpty() ? b.names : a.names);
        for (Map.Entry<List<String>, Long[]> x : a.rows.entrySet()) {
            for (Map.Entry<List<String>, Long[]> y : b.rows.entrySet()) {
                if (!same || x.getKey().equals(y.getKey())) {
                    Long[] cells = new Long[windows];
                    for (int w = 0; w < windows; w++) {
                        cells[w] = operate(n.kind, x.getValue()[w], y.getValue()[w]);
                    }
                    t.put(a.names.isEmpty() ? y.getKey() : x.getKey(), cells);
                }
            }
        }
        return t;
    }

    private static Long operate(char sign, Long a, Long b) {
        if (a == null || b == null || (sign == '/' || sign == '%') && b == 0) {
            return null;
        }
        java.math.BigInteger p = java.math.BigInteger.valueOf(a);
        java.math.BigInteger q = java.math.BigInteger.valueOf(b);
        switch (sign) {
            case '+':
                return p.add(q).longValue();
            case '-':
                return p.subtract(q).longValue();
            case '*':
                return p.multiply(q).longValue();
            case '/':
                return p.divide(q).longValue();
            default:
                return p.remainder(q).longValue();
        }
    }

    private boolean matches(TreeMap<String, String> labels, Node n) {
        for (String[] m : n.matches) {
            String value = labels.getOrDefault(m[0], "");
            boolean ok;
            switch (m[1]) {
                case "=":
                    ok = value.equals(m[2]);
                    break;
                case "!=":
                    ok = !value.equals(m[2]);
                    break;
                case "^=":
                    ok = value.startsWith(m[2]);
                    break;
                default:
                    ok = !value.startsWith(m[2]);
            }
            if (!ok) {
                return false;
            }
        }
        return true;
    }

    private Table tableOfFunc(Node n, long from, long width) {
        TreeMap<List<String>, TreeSet<Integer>> groups = new TreeMap<>(BY_TEXTS);
        for (int s = 0; s < series.size(); s++) {
            if (matches(series.get(s), n)) {
                List<String> texts = new ArrayList<>();
                for (String name : n.names) {
                    texts.add(series.get(s).getOrDefault(name, ""));
                }
                groups.computeIfAbsent(texts, k -> new TreeSet<>()).add(s);
            }
        }
        Table t = new Table(n.names);
        for (Map.Entry<List<String>, TreeSet<Integer>> g : groups.entrySet()) {
            Long[] cells = new Long[windows];
            for (int w = 0; w < windows; w++) {
                cells[w] = cellOf(n.text, g.getValue(), from + w * width, from + (w + 1) * width);
            }
            t.put(g.getKey(), cells);
        }
        return t;
    }

    private Long cellOf(String func, TreeSet<Integer> group, long from, long before) {
        List<Point> in = new ArrayList<>();
        for (Point p : points) {
            if (isSeen(p) && group.contains(p.series) && p.time >= from && p.time < before) {
                in.add(p);
            }
        }
        if (func.equals("growth")) {
            return growthOf(in);
        }
        if (in.isEmpty()) {
            return null;
        }
        in.sort(Comparator.comparingLong((Point p) -> p.time).thenComparingInt(p -> p.series));
        long sum = 0;
        long least = Long.MAX_VALUE;
        long most = Long.MIN_VALUE;
        Point latest = in.get(0);
        for (Point p : in) {
            sum += p.value;
            least = Math.min(least, p.value);
            most = Math.max(most, p.value);
            latest = p.time > latest.time ? p : latest;
        }
        switch (func) {
            case "sum":
                return sum;
            case "count":
                return (long) in.size();
            case "least":
                return least;
            case "most":
                return most;
            case "first":
                return in.get(0).value;
            default:
                return latest.value;
        }
    }

    private Long growthOf(List<Point> in) {
        Long growth = null;
        for (Point p : in) {
            Point before = null;
            for (Point q : points) {
                if (isSeen(q) && q.series == p.series && q.time < p.time && (before == null || q.time > before.time)) {
                    before = q;
                }
            }
            if (before != null) {
                growth = (growth == null ? 0 : growth) + (before.value > p.value ? p.value : p.value - before.value);
            }
        }
        return growth;
    }

    int ask(long from, long width, int n) {
        if (from < 0 || from > MOST_TIME || width < 1 || width > MOST_TIME || n < 1 || n > 64) {
            throw new IllegalArgumentException();
        }
        windows = n;
        line = tokens(tape);
        next = 0;
        tape = "";
        faultCode = 0;
        faultPlace = 0;
        table = null;
        rowTexts = new ArrayList<>();
        try {
            Node tree = level("+-", 0);
            take(".");
            table = tableOf(tree, from, width);
        } catch (Fault f) {
            faultCode = f.code;
            faultPlace = f.place;
            return -1;
        }
        rowTexts.addAll(table.rows.keySet());
        return rowTexts.size();
    }

    int names() {
        return table == null ? -1 : table.names.size();
    }

    private void needRow(int row) {
        if (row < 0 || row >= rowTexts.size()) {
            throw new IndexOutOfBoundsException();
        }
    }

    int text(int row, int k, int i) {
        needRow(row);
        if (k < 0 || k >= table.names.size()) {
            return -1;
        }
        String text = rowTexts.get(row).get(k);
        return i < 0 || i >= text.length() ? -1 : text.charAt(i);
    }

    private Long cellAt(int row, int window) {
        needRow(row);
        if (window < 0 || window >= windows) {
            throw new IndexOutOfBoundsException();
        }
        return table.rows.get(rowTexts.get(row))[window];
    }

    boolean isThere(int row, int window) {
        return cellAt(row, window) != null;
    }

    long cell(int row, int window) {
        Long c = cellAt(row, window);
        return c == null ? 0 : c;
    }
}
