import java.util.Arrays;

/** Points of many series, and questions about windows of time and groups of series, written as texts. */
public final class WindowTables {
    public static final int NONE = -1;

    private static final int MOST_TAPE = 65536;
    private static final int MOST_SERIES = 256;
    private static final int MOST_LABELS = 6;
    private static final int MOST_WORD = 24;
    private static final int MOST_TEXT = MOST_LABELS * (2 * MOST_WORD + 2);
    private static final int MOST_HEAD = 4096;
    private static final int MOST_PARCELS = 32;
    private static final int MOST_SCARS = 64;
    private static final int MOST_WINDOWS = 64;
    private static final int MOST_CELLS = MOST_SERIES * MOST_WINDOWS;
    private static final int MOST_OPEN = 8;
    // Each open bracket leaves a left side of + and one of * waiting; the innermost place has one grid more.
    private static final int MOST_GRIDS = 2 * (MOST_OPEN + 1) + 1;
    private static final long MOST_TIME = 1099511627775L;
    private static final long MOST_NUMBER = 9223372036854775807L;
    private static final int FEED_BYTES = 20;
    private static final int POINT_BYTES = 16;

    private static final int UNREADABLE = 1;
    private static final int MISPLACED = 2;
    private static final int TOO_DEEP = 3;
    private static final int BAD_NAME = 4;
    private static final int CLASH = 5;
    private static final int BAD_BYTE = 7;
    private static final int BAD_LABEL = 8;

    // A token of one byte has that byte as its kind, so these kinds lie outside 0 .. 255.
    private static final int BAD = 300;
    private static final int FINISH = 301;
    private static final int NUMBER = 302;
    private static final int NAME = 303;
    private static final int QUOTED = 304;
    private static final int IS_NOT = 305;
    private static final int BEGINS = 306;
    private static final int BEGINS_NOT = 307;

    private static final int FUNC = 310;
    private static final int NEGATE = 311;
    private static final int FUNC_HEAD = 4;
    private static final int NAME_PART = 2;
    private static final int MATCH_PART = 5;

    private static final int SUM = 1;
    private static final int COUNT = 2;
    private static final int LEAST = 3;
    private static final int MOST = 4;
    private static final int FIRST = 5;
    private static final int LATEST = 6;
    private static final int GROWTH = 7;

    private final Tape tape = new Tape();
    private final Store store = new Store();
    private final LabelReader labelReader = new LabelReader();
    private final Program program = new Program();
    private final QuestionReader questionReader = new QuestionReader(tape, program);
    private final Groups groups = new Groups(tape, store, program);
    private final Evaluator evaluator = new Evaluator(tape, store, program, groups);
    private int faultCode;
    private int faultPlace;
    private boolean hasTable;

    public WindowTables() {
    }

    public int feed(int a, int b, int c, int d, int e) throws UnsupportedOperationException {
        if (tape.size() > MOST_TAPE - FEED_BYTES) {
            throw new UnsupportedOperationException("the tape would be too long");
        }
        tape.put(a);
        tape.put(b);
        tape.put(c);
        tape.put(d);
        tape.put(e);
        return tape.size();
    }

    public void end(int n) throws IllegalArgumentException {
        if (n < 0 || n > tape.size()) {
            throw new IllegalArgumentException("the tape has not so many bytes");
        }
        tape.keep(n);
    }

    public int series() throws UnsupportedOperationException {
        int number = NONE;
        if (labelReader.read(tape)) {
            number = store.numberOf(labelReader);
            if (number == NONE && store.isFull()) {
                throw new UnsupportedOperationException("there are 256 series");
            }
            if (number == NONE) {
                number = store.add(labelReader.make());
            }
        }
        faultCode = labelReader.faultCode();
        faultPlace = labelReader.faultPlace();
        tape.keep(0);
        return number;
    }

    public int fault(int what) throws IndexOutOfBoundsException {
        if (what != 0 && what != 1) {
            throw new IndexOutOfBoundsException("a fault has a code and a place");
        }
        return what == 0 ? faultCode : faultPlace;
    }

    public int letter(int s, int k) throws IndexOutOfBoundsException {
        return existing(s).letterAt(k);
    }

    public int append(int s, long time, long value)
            throws IndexOutOfBoundsException, IllegalArgumentException, UnsupportedOperationException {
        Points points = existing(s).points();
        if (!store.mayCome(points, time)) {
            throw new IllegalArgumentException("no time, or not above the last one, or below the horizon");
        }
        if (store.headIsFull()) {
            throw new UnsupportedOperationException("there are 4096 points in the head");
        }
        store.putPoint(points, time, value);
        return store.headSize();
    }

    public int bulk(int s) throws IndexOutOfBoundsException {
        Points points = existing(s).points();
        int came = 0;
        for (int at = 0; at + POINT_BYTES <= tape.size(); at += POINT_BYTES) {
            long time = tape.longAt(at);
            if (!store.mayCome(points, time) || store.headIsFull()) {
                break;
            }
            store.putPoint(points, time, tape.longAt(at + POINT_BYTES / 2));
            came++;
        }
        tape.keep(0);
        return came;
    }

    public int delete(int s, long from, long to)
            throws IndexOutOfBoundsException, IllegalArgumentException, UnsupportedOperationException {
        Points points = existing(s).points();
        if (from > to) {
            throw new IllegalArgumentException("from is above to");
        }
        int first = points.firstFrom(from);
        // No time is above MOST_TIME, and so the 1 cannot make the number wrap.
        int behind = points.firstFrom(Math.min(to, MOST_TIME) + 1);
        boolean scars = points.packedAmong(first, behind) > 0;
        if (scars && store.scars() >= MOST_SCARS) {
            throw new UnsupportedOperationException("there are 64 scars");
        }
        if (scars) {
            store.addScar();
        }
        return store.letGo(points, first, behind);
    }

    public int retain(long time) throws IllegalArgumentException {
        if (!store.isTime(time) || time < store.horizon()) {
            throw new IllegalArgumentException("no time, or below the horizon");
        }
        return store.moveHorizon(time);
    }

    public int ask(long from, long width, int n) throws IllegalArgumentException {
        if (!store.isTime(from) || width < 1 || width > MOST_TIME || n < 1 || n > MOST_WINDOWS) {
            throw new IllegalArgumentException("no time, no width, or no number of windows");
        }
        hasTable = questionReader.read();
        faultCode = questionReader.faultCode();
        faultPlace = questionReader.faultPlace();
        int rows = NONE;
        if (hasTable) {
            groups.form(questionReader.naming());
            rows = evaluator.run(from, width, n);
        }
        tape.keep(0);
        return rows;
    }

    public int names() {
        return hasTable ? groups.nameCount() : NONE;
    }

    public int text(int row, int k, int i) throws IndexOutOfBoundsException {
        if (!hasRow(row)) {
            throw new IndexOutOfBoundsException("there is no such row");
        }
        return groups.letterAt(row, k, i);
    }

    public boolean isThere(int row, int window) throws IndexOutOfBoundsException {
        Grid table = tableWith(row, window);
        return table.has(table.placeOf(row, window));
    }

    public long cell(int row, int window) throws IndexOutOfBoundsException {
        Grid table = tableWith(row, window);
        return table.numberAt(table.placeOf(row, window));
    }

    public long last(int s) throws IndexOutOfBoundsException {
        return existing(s).points().lastTime();
    }

    public int pack() throws UnsupportedOperationException {
        if (store.headSize() > 0 && store.parcels() >= MOST_PARCELS) {
            throw new UnsupportedOperationException("there are 32 parcels");
        }
        return store.packHead();
    }

    public int count(int what) throws IllegalArgumentException {
        switch (what) {
            case 0:
                return store.size();
            case 1:
                return store.headSize();
            case 2:
                return store.parcels();
            case 3:
                return store.scars();
            case 4:
                return store.seenPoints();
            default:
                throw new IllegalArgumentException("there is nothing of this kind to count");
        }
    }

    private Series existing(int s) {
        Series found = store.find(s);
        if (found == null) {
            throw new IndexOutOfBoundsException("there is no such series");
        }
        return found;
    }

    private boolean hasRow(int row) {
        return hasTable && row >= 0 && row < evaluator.table().lines();
    }

    private Grid tableWith(int row, int window) {
        Grid table = evaluator.table();
        if (!hasRow(row) || window < 0 || window >= table.windows()) {
            throw new IndexOutOfBoundsException("there is no such row or window");
        }
        return table;
    }

    /** The bytes that were fed and not used yet. */
    private static final class Tape {
        private byte[] bytes = new byte[512];
        private int size;

        Tape() {
        }

        int size() {
            return size;
        }

        void put(int number) {
            if (size > bytes.length - 4) {
                bytes = Arrays.copyOf(bytes, 2 * bytes.length);
            }
            for (int shift = 24; shift >= 0; shift -= 8) {
                bytes[size] = (byte) (number >> shift);
                size++;
            }
        }

        void keep(int n) {
            if (n >= 0 && n < size) {
                size = n;
            }
        }

        /** NONE behind the last byte, so that readers need no look at the size. */
        int byteAt(int i) {
            return i >= 0 && i < size ? bytes[i] & 255 : NONE;
        }

        long longAt(int i) {
            long number = 0;
            for (int k = 0; k < 8; k++) {
                number = number << 8 | byteAt(i + k) & 255;
            }
            return number;
        }

        /** Compares two rows of bytes; the beginning of a row is less than the row. */
        int compare(int at, int behind, int otherAt, int otherBehind) {
            int length = behind - at;
            int otherLength = otherBehind - otherAt;
            for (int i = 0; i < length && i < otherLength; i++) {
                int order = Integer.compare(byteAt(at + i), byteAt(otherAt + i));
                if (order != 0) {
                    return order;
                }
            }
            return Integer.compare(length, otherLength);
        }
    }

    /** Reads the text of a series from the tape and puts its labels in order. */
    private static final class LabelReader {
        // Places on the tape, the labels by rising names.
        private final int[] nameAt = new int[MOST_LABELS];
        private final int[] signAt = new int[MOST_LABELS];
        private final int[] valueEnd = new int[MOST_LABELS];
        private int labels;
        private final byte[] letters = new byte[MOST_TEXT];
        private int length;
        private int faultCode;
        private int faultPlace;

        LabelReader() {
        }

        int faultCode() {
            return faultCode;
        }

        int faultPlace() {
            return faultPlace;
        }

        int length() {
            return length;
        }

        int letterAt(int i) {
            return i >= 0 && i < length ? letters[i] : NONE;
        }

        boolean read(Tape tape) {
            labels = 0;
            faultCode = 0;
            faultPlace = 0;
            int at = 0;
            // The seventh label is a fault, and so there is no eighth turn.
            for (int turn = 0; turn <= MOST_LABELS; turn++) {
                int behind = readLabel(tape, at);
                if (behind == NONE) {
                    return false;
                }
                if (behind == tape.size()) {
                    compose(tape);
                    return true;
                }
                if (tape.byteAt(behind) != ',') {
                    refuse(BAD_BYTE, behind);
                    return false;
                }
                at = behind + 1;
            }
            return false;
        }

        /** The place behind the label; NONE if it has a fault. */
        private int readLabel(Tape tape, int at) {
            int sign = wordEnd(tape, at);
            if (sign == at || tape.byteAt(sign) != '=') {
                return refuse(BAD_BYTE, sign);
            }
            int place = placeFor(tape, at, sign);
            if (place == NONE) {
                return refuse(BAD_LABEL, at);
            }
            int behind = wordEnd(tape, sign + 1);
            if (behind == sign + 1) {
                return refuse(BAD_BYTE, behind);
            }
            insert(place, at, sign, behind);
            return behind;
        }

        private int refuse(int code, int place) {
            faultCode = code;
            faultPlace = place;
            return NONE;
        }

        private static int wordEnd(Tape tape, int at) {
            int length = 0;
            while (length < MOST_WORD && isWordByte(tape.byteAt(at + length))) {
                length++;
            }
            return at + length;
        }

        private static boolean isWordByte(int b) {
            if (b < 33 || b > 126) {
                return false;
            }
            return b != '"' && b != '=' && b != ',' && b != '(' && b != ')' && b != '{' && b != '}';
        }

        /** Where a label of this name goes in the order; NONE if the name is there, or all six are. */
        private int placeFor(Tape tape, int at, int sign) {
            if (labels >= MOST_LABELS) {
                return NONE;
            }
            for (int i = 0; i < labels; i++) {
                int order = tape.compare(at, sign, nameAt[i], signAt[i]);
                if (order == 0) {
                    return NONE;
                }
                if (order < 0) {
                    return i;
                }
            }
            return labels;
        }

        private void insert(int place, int at, int sign, int behind) {
            if (place < 0 || place > labels || labels >= MOST_LABELS) {
                return;
            }
            for (int i = labels; i > place; i--) {
                nameAt[i] = nameAt[i - 1];
                signAt[i] = signAt[i - 1];
                valueEnd[i] = valueEnd[i - 1];
            }
            nameAt[place] = at;
            signAt[place] = sign;
            valueEnd[place] = behind;
            labels++;
        }

        private void compose(Tape tape) {
            length = 0;
            for (int label = 0; label < labels; label++) {
                if (label > 0) {
                    addLetter(',');
                }
                for (int i = nameAt[label]; i < valueEnd[label]; i++) {
                    addLetter(tape.byteAt(i));
                }
            }
        }

        private void addLetter(int letter) {
            if (length < letters.length) {
                letters[length] = (byte) letter;
                length++;
            }
        }

        Series make() {
            int[] starts = new int[labels];
            int[] signs = new int[labels];
            int[] ends = new int[labels];
            int at = 0;
            for (int label = 0; label < labels; label++) {
                starts[label] = at;
                signs[label] = at + signAt[label] - nameAt[label];
                ends[label] = at + valueEnd[label] - nameAt[label];
                at = ends[label] + 1;
            }
            return new Series(Arrays.copyOf(letters, length), starts, signs, ends);
        }
    }

    /** A row of labels and the points that came for it. */
    private static final class Series {
        private final byte[] letters;
        // Of each label: where it starts, where its = is, and where it ends in the letters.
        private final int[] starts;
        private final int[] signs;
        private final int[] ends;
        private final Points points = new Points();

        Series(byte[] letters, int[] starts, int[] signs, int[] ends) {
            this.letters = letters;
            this.starts = starts;
            this.signs = signs;
            this.ends = ends;
        }

        Points points() {
            return points;
        }

        int letterAt(int i) {
            return i >= 0 && i < letters.length ? letters[i] : NONE;
        }

        boolean isTheOneOf(LabelReader reader) {
            if (reader.length() != letters.length) {
                return false;
            }
            for (int i = 0; i < letters.length; i++) {
                if (letters[i] != reader.letterAt(i)) {
                    return false;
                }
            }
            return true;
        }

        /** The label whose name is that row of bytes on the tape, or NONE. */
        int labelNamed(Tape tape, int at, int length) {
            for (int label = 0; label < starts.length && label < signs.length; label++) {
                if (signs[label] - starts[label] == length && isOnTape(starts[label], tape, at, length)) {
                    return label;
                }
            }
            return NONE;
        }

        private boolean isOnTape(int start, Tape tape, int at, int length) {
            for (int i = 0; i < length; i++) {
                if (letterAt(start + i) != tape.byteAt(at + i)) {
                    return false;
                }
            }
            return true;
        }

        /** A label that is not there has the value "". */
        int valueLength(int label) {
            if (label < 0 || label >= signs.length || label >= ends.length) {
                return 0;
            }
            return ends[label] - signs[label] - 1;
        }

        int valueLetter(int label, int i) {
            if (label < 0 || label >= signs.length || i < 0 || i >= valueLength(label)) {
                return NONE;
            }
            return letterAt(signs[label] + 1 + i);
        }

        boolean valueBegins(int label, Tape tape, int at, int length) {
            if (length > valueLength(label)) {
                return false;
            }
            for (int i = 0; i < length; i++) {
                if (valueLetter(label, i) != tape.byteAt(at + i)) {
                    return false;
                }
            }
            return true;
        }

        int compareValue(int label, Series other, int otherLabel) {
            int length = Math.max(valueLength(label), other.valueLength(otherLabel));
            for (int i = 0; i < length; i++) {
                // Behind a value's end is NONE, below each letter: a beginning comes first.
                int order = Integer.compare(valueLetter(label, i), other.valueLetter(otherLabel, i));
                if (order != 0) {
                    return order;
                }
            }
            return 0;
        }
    }

    /** The points of one series that are seen, by rising times; those in parcels come first. */
    private static final class Points {
        // Most series get few points: no rows before the first one.
        private long[] times = new long[0];
        private long[] values = new long[0];
        private int size;
        private int packed;
        private long lastTime = NONE;

        Points() {
        }

        int size() {
            return size;
        }

        long lastTime() {
            return lastTime;
        }

        long timeAt(int i) {
            return i >= 0 && i < size ? times[i] : NONE;
        }

        long valueAt(int i) {
            return i >= 0 && i < size ? values[i] : 0;
        }

        void add(long time, long value) {
            if (size >= times.length || size >= values.length) {
                int room = Math.max(4, 2 * size);
                times = Arrays.copyOf(times, room);
                values = Arrays.copyOf(values, room);
            }
            times[size] = time;
            values[size] = value;
            size++;
            lastTime = time;
        }

        /** The first point whose time is not below this one. */
        int firstFrom(long time) {
            int low = 0;
            int high = size;
            for (int turn = 0; turn < 32 && low < high; turn++) {
                int middle = (low + high) / 2;
                if (timeAt(middle) < time) {
                    low = middle + 1;
                } else {
                    high = middle;
                }
            }
            return low;
        }

        int packedAmong(int first, int behind) {
            return Math.max(0, Math.min(behind, packed) - first);
        }

        void packAll() {
            packed = size;
        }

        void remove(int first, int behind) {
            if (first < 0 || behind <= first || behind > size) {
                return;
            }
            packed -= packedAmong(first, behind);
            System.arraycopy(times, behind, times, first, size - behind);
            System.arraycopy(values, behind, values, first, size - behind);
            size -= behind - first;
        }
    }

    /**
     * All series, and what is true of all their points. A parcel and a scar are only counted: points that are seen no
     * more leave their rows at once.
     */
    private static final class Store {
        private final Series[] rows = new Series[MOST_SERIES];
        private int size;
        private long horizon;
        private int headSize;
        private int parcels;
        private int scars;

        Store() {
        }

        int size() {
            return size;
        }

        boolean isFull() {
            return size >= rows.length;
        }

        Series find(int s) {
            return s >= 0 && s < size ? rows[s] : null;
        }

        int numberOf(LabelReader reader) {
            for (int s = 0; s < size; s++) {
                Series row = find(s);
                if (row != null && row.isTheOneOf(reader)) {
                    return s;
                }
            }
            return NONE;
        }

        int add(Series row) {
            if (isFull()) {
                return NONE;
            }
            rows[size] = row;
            size++;
            return size - 1;
        }

        long horizon() {
            return horizon;
        }

        int headSize() {
            return headSize;
        }

        boolean headIsFull() {
            return headSize >= MOST_HEAD;
        }

        int parcels() {
            return parcels;
        }

        int scars() {
            return scars;
        }

        void addScar() {
            scars++;
        }

        int seenPoints() {
            int seen = 0;
            for (int s = 0; s < size; s++) {
                Series row = find(s);
                seen += row == null ? 0 : row.points().size();
            }
            return seen;
        }

        boolean isTime(long time) {
            return time >= 0 && time <= MOST_TIME;
        }

        boolean mayCome(Points points, long time) {
            return isTime(time) && time > points.lastTime() && time >= horizon;
        }

        void putPoint(Points points, long time, long value) {
            points.add(time, value);
            headSize++;
        }

        /** How many points went. */
        int letGo(Points points, int first, int behind) {
            if (behind <= first) {
                return 0;
            }
            headSize -= behind - first - points.packedAmong(first, behind);
            points.remove(first, behind);
            return behind - first;
        }

        int moveHorizon(long time) {
            horizon = time;
            int gone = 0;
            for (int s = 0; s < size; s++) {
                Series row = find(s);
                if (row != null) {
                    gone += letGo(row.points(), 0, row.points().firstFrom(time));
                }
            }
            return gone;
        }

        int packHead() {
            int packed = headSize;
            if (packed > 0) {
                parcels++;
            }
            headSize = 0;
            for (int s = 0; s < size; s++) {
                Series row = find(s);
                if (row != null) {
                    row.points().packAll();
                }
            }
            return packed;
        }
    }

    /** Cuts a question into tokens, one at a time: what stands behind a fault is never looked at. */
    private static final class Lexer {
        private final Tape tape;
        private int kind;
        private int at;
        private int behind;
        private long number;

        Lexer(Tape tape) {
            this.tape = tape;
        }

        int kind() {
            return kind;
        }

        int at() {
            return at;
        }

        int behind() {
            return behind;
        }

        long number() {
            return number;
        }

        void start() {
            behind = 0;
            advance();
        }

        /** No token is there from now on. */
        void stop() {
            kind = BAD;
        }

        void advance() {
            at = behind;
            while (at < tape.size() && tape.byteAt(at) == ' ') {
                at++;
            }
            behind = at;
            int first = tape.byteAt(at);
            if (first == NONE) {
                kind = FINISH;
            } else if (isDigit(first)) {
                readNumber();
            } else if (isNameByte(first)) {
                readName();
            } else if (first == '"') {
                readQuoted();
            } else {
                readSign(first, tape.byteAt(at + 1));
            }
        }

        private static boolean isDigit(int b) {
            return b >= '0' && b <= '9';
        }

        private static boolean isNameByte(int b) {
            return b >= 'a' && b <= 'z' || b >= 'A' && b <= 'Z' || b >= '0' && b <= '9' || b == '_';
        }

        private void readNumber() {
            kind = NUMBER;
            number = 0;
            while (behind < tape.size() && isDigit(tape.byteAt(behind))) {
                int digit = tape.byteAt(behind) - '0';
                if (number > (MOST_NUMBER - digit) / 10) {
                    kind = BAD;
                    return;
                }
                number = number * 10 + digit;
                behind++;
            }
        }

        private void readName() {
            kind = NAME;
            while (behind < tape.size() && isNameByte(tape.byteAt(behind))) {
                behind++;
            }
        }

        private void readQuoted() {
            behind++;
            while (behind < tape.size() && isQuotable(tape.byteAt(behind))) {
                behind++;
            }
            kind = tape.byteAt(behind) == '"' ? QUOTED : BAD;
            behind++;
        }

        private static boolean isQuotable(int b) {
            return b >= 32 && b <= 126 && b != '"';
        }

        private void readSign(int first, int second) {
            kind = signKind(first, second);
            boolean isOfTwo = kind == IS_NOT || kind == BEGINS || kind == BEGINS_NOT;
            behind += isOfTwo ? 2 : 1;
        }

        private static int signKind(int first, int second) {
            switch (first) {
                case '+':
                case '-':
                case '*':
                case '/':
                case '%':
                case '(':
                case ')':
                case '{':
                case '}':
                case ',':
                case '=':
                    return first;
                case '^':
                    return second == '=' ? BEGINS : BAD;
                case '!':
                    return second == '=' ? IS_NOT : second == '^' ? BEGINS_NOT : BAD;
                default:
                    return BAD;
            }
        }

        boolean spells(String word) {
            if (kind != NAME || behind - at != word.length()) {
                return false;
            }
            for (int i = 0; i < word.length(); i++) {
                if (tape.byteAt(at + i) != word.charAt(i)) {
                    return false;
                }
            }
            return true;
        }
    }

    /**
     * A question as orders for a stack, operands first. NUMBER has its two halves behind it; FUNC its kind, how many
     * names and matches it has, then these: of a name its place on the tape and its length, of a match those of the
     * name, the sign, and those of the text.
     */
    private static final class Program {
        private int[] orders = new int[256];
        private int size;

        Program() {
        }

        void clear() {
            size = 0;
        }

        int size() {
            return size;
        }

        int get(int i) {
            return i >= 0 && i < size ? orders[i] : 0;
        }

        void add(int order) {
            if (size >= orders.length) {
                orders = Arrays.copyOf(orders, 2 * orders.length);
            }
            orders[size] = order;
            size++;
        }

        private void countUp(int i) {
            if (i >= 0 && i < size) {
                orders[i]++;
            }
        }

        void addNumber(long number) {
            add(NUMBER);
            add((int) (number >> 32));
            add((int) number);
        }

        long numberOf(int order) {
            return (long) get(order + 1) << 32 | get(order + 2) & 0xFFFFFFFFL;
        }

        /** The order, by which the names and matches that come next are added to it. */
        int addFunc(int kind) {
            int func = size;
            add(FUNC);
            add(kind);
            add(0);
            add(0);
            return func;
        }

        void addName(int func) {
            countUp(func + 2);
        }

        void addMatch(int func) {
            countUp(func + 3);
        }

        /** A row of bytes on the tape, as its place and its length. */
        void addSlice(int at, int behind) {
            add(at);
            add(behind - at);
        }

        int kindOf(int func) {
            return get(func + 1);
        }

        int namesOf(int func) {
            return get(func + 2);
        }

        int nameAt(int func, int k) {
            return get(func + FUNC_HEAD + NAME_PART * k);
        }

        int nameLength(int func, int k) {
            return get(func + FUNC_HEAD + NAME_PART * k + 1);
        }

        int matchesOf(int func) {
            return get(func + 3);
        }

        int matchOf(int func, int m) {
            return func + FUNC_HEAD + NAME_PART * namesOf(func) + MATCH_PART * m;
        }

        int lengthOf(int order) {
            switch (get(order)) {
                case NUMBER:
                    return 3;
                case FUNC:
                    return matchOf(order, matchesOf(order)) - order;
                default:
                    return 1;
            }
        }
    }

    /**
     * Reads a question from the tape. Behind a fault the lexer gives BAD alone, which stands nowhere, so that all
     * reading ends by itself; the first fault counts.
     */
    private static final class QuestionReader {
        private final Tape tape;
        private final Lexer lexer;
        private final Program program;
        private int faultCode;
        private int faultPlace;
        private int clashPlace;
        private int naming;

        QuestionReader(Tape tape, Program program) {
            this.tape = tape;
            this.program = program;
            this.lexer = new Lexer(tape);
        }

        int faultCode() {
            return faultCode;
        }

        int faultPlace() {
            return faultPlace;
        }

        /** The order with the names of the table; NONE, if it has no names. */
        int naming() {
            return naming;
        }

        boolean read() {
            program.clear();
            faultCode = 0;
            faultPlace = 0;
            clashPlace = NONE;
            lexer.start();
            naming = readSum(0);
            if (lexer.kind() != FINISH) {
                refuse(MISPLACED);
            }
            if (faultCode == 0 && clashPlace != NONE) {
                faultCode = CLASH;
                faultPlace = clashPlace;
            }
            return faultCode == 0;
        }

        private void refuse(int code) {
            if (faultCode == 0) {
                faultCode = lexer.kind() == BAD ? UNREADABLE : code;
                faultPlace = lexer.at();
            }
            lexer.stop();
        }

        private void take(int kind) {
            if (lexer.kind() == kind) {
                lexer.advance();
            } else {
                refuse(MISPLACED);
            }
        }

        // The readers of sums, products and factors answer the order with the names of their table, or NONE.

        private int readSum(int open) {
            int names = readProduct(open);
            for (int left = tape.size(); left > 0 && isSumSign(lexer.kind()); left--) {
                int sign = lexer.kind();
                int place = lexer.at();
                lexer.advance();
                names = join(names, readProduct(open), place);
                program.add(sign);
            }
            return names;
        }

        private int readProduct(int open) {
            int names = readFactor(open);
            for (int left = tape.size(); left > 0 && isProductSign(lexer.kind()); left--) {
                int sign = lexer.kind();
                int place = lexer.at();
                lexer.advance();
                names = join(names, readFactor(open), place);
                program.add(sign);
            }
            return names;
        }

        private static boolean isSumSign(int kind) {
            return kind == '+' || kind == '-';
        }

        private static boolean isProductSign(int kind) {
            return kind == '*' || kind == '/' || kind == '%';
        }

        private int join(int names, int others, int place) {
            if (names == NONE || others == NONE) {
                return names == NONE ? others : names;
            }
            if (clashPlace == NONE && !haveSameNames(names, others)) {
                clashPlace = place;
            }
            return names;
        }

        private boolean haveSameNames(int func, int other) {
            if (program.namesOf(func) != program.namesOf(other)) {
                return false;
            }
            for (int k = 0; k < program.namesOf(func); k++) {
                if (!isName(func, k, program.nameAt(other, k), program.nameLength(other, k))) {
                    return false;
                }
            }
            return true;
        }

        private boolean isName(int func, int k, int at, int length) {
            int start = program.nameAt(func, k);
            return tape.compare(start, start + program.nameLength(func, k), at, at + length) == 0;
        }

        private int readFactor(int open) {
            int kind = lexer.kind();
            if (kind == NUMBER) {
                program.addNumber(lexer.number());
                lexer.advance();
                return NONE;
            }
            if (kind == '(' || kind == '-') {
                return readOpened(kind, open);
            }
            int func = funcKind();
            if (func != NONE) {
                return readFunc(func);
            }
            refuse(MISPLACED);
            return NONE;
        }

        private int readOpened(int kind, int open) {
            if (open >= MOST_OPEN) {
                refuse(TOO_DEEP);
                return NONE;
            }
            lexer.advance();
            int names;
            if (kind == '(') {
                names = readSum(open + 1);
                take(')');
            } else {
                names = readFactor(open + 1);
                program.add(NEGATE);
            }
            return names;
        }

        private int funcKind() {
            if (lexer.spells("sum")) {
                return SUM;
            }
            if (lexer.spells("count")) {
                return COUNT;
            }
            if (lexer.spells("least")) {
                return LEAST;
            }
            if (lexer.spells("most")) {
                return MOST;
            }
            if (lexer.spells("first")) {
                return FIRST;
            }
            if (lexer.spells("latest")) {
                return LATEST;
            }
            return lexer.spells("growth") ? GROWTH : NONE;
        }

        private int readFunc(int kind) {
            int func = program.addFunc(kind);
            lexer.advance();
            if (lexer.spells("by")) {
                lexer.advance();
                take('(');
                readNames(func);
                take(')');
            }
            take('(');
            take('{');
            if (lexer.kind() != '}') {
                readMatches(func);
            }
            take('}');
            take(')');
            return program.namesOf(func) > 0 ? func : NONE;
        }

        private void readNames(int func) {
            boolean goesOn = true;
            for (int left = tape.size(); left > 0 && goesOn; left--) {
                int at = lexer.at();
                int length = lexer.behind() - at;
                if (lexer.kind() != NAME) {
                    refuse(MISPLACED);
                } else if (program.namesOf(func) >= MOST_LABELS || hasName(func, at, length)) {
                    refuse(BAD_NAME);
                } else {
                    program.addName(func);
                    program.addSlice(at, lexer.behind());
                    lexer.advance();
                }
                goesOn = takeComma();
            }
        }

        private boolean hasName(int func, int at, int length) {
            for (int k = 0; k < program.namesOf(func); k++) {
                if (isName(func, k, at, length)) {
                    return true;
                }
            }
            return false;
        }

        private void readMatches(int func) {
            boolean goesOn = true;
            for (int left = tape.size(); left > 0 && goesOn; left--) {
                program.addMatch(func);
                program.addSlice(lexer.at(), lexer.behind());
                take(NAME);
                program.add(lexer.kind());
                take(isMatchSign(lexer.kind()) ? lexer.kind() : '=');
                // The text is what stands between the quotes.
                program.addSlice(lexer.at() + 1, lexer.behind() - 1);
                take(QUOTED);
                goesOn = takeComma();
            }
        }

        private boolean takeComma() {
            if (lexer.kind() != ',') {
                return false;
            }
            lexer.advance();
            return true;
        }

        private static boolean isMatchSign(int kind) {
            return kind == '=' || kind == IS_NOT || kind == BEGINS || kind == BEGINS_NOT;
        }
    }

    /**
     * Which series make a row together. All tables with names in a question without a fault have the same ones, and so
     * one grouping serves them all.
     */
    private static final class Groups {
        private final Tape tape;
        private final Store store;
        private final Program program;
        private int nameCount;
        private int size;
        // Of each series and name the label, or NONE.
        private final int[] labels = new int[MOST_SERIES * MOST_LABELS];
        private final int[] order = new int[MOST_SERIES];
        private final int[] groupOf = new int[MOST_SERIES];
        // Of each group one of its series, whose values are the texts of the row.
        private final int[] leaders = new int[MOST_SERIES];

        Groups(Tape tape, Store store, Program program) {
            this.tape = tape;
            this.store = store;
            this.program = program;
        }

        int nameCount() {
            return nameCount;
        }

        int size() {
            return size;
        }

        int groupOf(int s) {
            return s >= 0 && s < groupOf.length ? groupOf[s] : 0;
        }

        /** Forms the groups by the names of an order; NONE: there are no names. */
        void form(int naming) {
            nameCount = naming == NONE ? 0 : Math.min(program.namesOf(naming), MOST_LABELS);
            size = 0;
            if (nameCount == 0) {
                return;
            }
            int many = Math.min(store.size(), MOST_SERIES);
            for (int s = 0; s < many; s++) {
                findLabels(s, naming);
                putInOrder(s);
            }
            for (int i = 0; i < many; i++) {
                if (i == 0 || compare(order[i - 1], order[i]) != 0) {
                    leaders[size] = order[i];
                    size++;
                }
                groupOf[order[i]] = size - 1;
            }
        }

        private void findLabels(int s, int naming) {
            Series row = store.find(s);
            for (int k = 0; k < nameCount && row != null; k++) {
                labels[s * MOST_LABELS + k] =
                        row.labelNamed(tape, program.nameAt(naming, k), program.nameLength(naming, k));
            }
        }

        /** Puts series s among those with lesser numbers, which are in order. */
        private void putInOrder(int s) {
            int low = 0;
            int high = s;
            for (int turn = 0; turn < 32 && low < high; turn++) {
                int middle = (low + high) / 2;
                if (compare(order[middle], s) <= 0) {
                    low = middle + 1;
                } else {
                    high = middle;
                }
            }
            System.arraycopy(order, low, order, low + 1, s - low);
            order[low] = s;
        }

        private int compare(int s, int other) {
            Series row = store.find(s);
            Series otherRow = store.find(other);
            if (row == null || otherRow == null) {
                return 0;
            }
            for (int k = 0; k < nameCount; k++) {
                int result = row.compareValue(labelOf(s, k), otherRow, labelOf(other, k));
                if (result != 0) {
                    return result;
                }
            }
            return 0;
        }

        private int labelOf(int s, int k) {
            return s >= 0 && s < MOST_SERIES && k >= 0 && k < nameCount ? labels[s * MOST_LABELS + k] : NONE;
        }

        /** A row that stays takes the place of one that is dropped. */
        void moveLeader(int from, int to) {
            if (from >= 0 && from < size && to >= 0 && to <= from) {
                leaders[to] = leaders[from];
            }
        }

        int letterAt(int group, int k, int i) {
            if (group < 0 || group >= size || k < 0 || k >= nameCount) {
                return NONE;
            }
            Series row = store.find(leaders[group]);
            return row == null ? NONE : row.valueLetter(labelOf(leaders[group], k), i);
        }
    }

    /** The cells of a table: one line for each group, or a single one without names. */
    private static final class Grid {
        private long[] numbers = new long[0];
        private boolean[] there = new boolean[0];
        private int lines;
        private int windows;
        private boolean named;

        Grid() {
        }

        int lines() {
            return lines;
        }

        int windows() {
            return windows;
        }

        boolean isNamed() {
            return named;
        }

        /** Makes all cells nothing. */
        void shape(int newLines, int newWindows, boolean newNamed) {
            lines = newLines;
            windows = newWindows;
            named = newNamed;
            int cells = Math.min(lines * windows, MOST_CELLS);
            if (cells > numbers.length || cells > there.length) {
                int room = Math.min(Math.max(cells, 2 * numbers.length), MOST_CELLS);
                numbers = new long[room];
                there = new boolean[room];
            }
            for (int i = 0; i < cells; i++) {
                there[i] = false;
            }
        }

        /** Without names the single line goes with each one of another grid. */
        int placeOf(int line, int window) {
            return (named ? line * windows : 0) + window;
        }

        boolean has(int place) {
            return place >= 0 && place < there.length && there[place];
        }

        long numberAt(int place) {
            return has(place) && place < numbers.length ? numbers[place] : 0;
        }

        void put(int place, long number) {
            if (place >= 0 && place < numbers.length && place < there.length) {
                numbers[place] = number;
                there[place] = true;
            }
        }

        void clear(int place) {
            if (place >= 0 && place < there.length) {
                there[place] = false;
            }
        }

        boolean isEmptyLine(int line) {
            for (int window = 0; window < windows; window++) {
                if (has(placeOf(line, window))) {
                    return false;
                }
            }
            return true;
        }

        void moveLine(int from, int to) {
            for (int window = 0; window < windows; window++) {
                int source = placeOf(from, window);
                if (has(source)) {
                    put(placeOf(to, window), numberAt(source));
                } else {
                    clear(placeOf(to, window));
                }
            }
        }

        void keepLines(int many) {
            lines = many;
        }
    }

    /** Works the orders of a question off on a stack of grids; the lowest one becomes the table. */
    private static final class Evaluator {
        private final Tape tape;
        private final Store store;
        private final Program program;
        private final Groups groups;
        private final Grid[] stack = new Grid[MOST_GRIDS];
        private int height;
        // Of each cell of first or latest the time of the point that it is from.
        private long[] moments = new long[0];
        private long from;
        private long width;
        private int windows;

        Evaluator(Tape tape, Store store, Program program, Groups groups) {
            this.tape = tape;
            this.store = store;
            this.program = program;
            this.groups = groups;
            for (int i = 0; i < stack.length; i++) {
                stack[i] = new Grid();
            }
        }

        Grid table() {
            return stack[0];
        }

        /** How many rows the table has. */
        int run(long newFrom, long newWidth, int newWindows) {
            from = newFrom;
            width = newWidth;
            windows = newWindows;
            height = 0;
            int step = 1;
            for (int at = 0; at < program.size(); at += step) {
                step = Math.max(1, program.lengthOf(at));
                switch (program.get(at)) {
                    case NUMBER:
                        pushNumber(program.numberOf(at));
                        break;
                    case FUNC:
                        pushFunc(at);
                        break;
                    case NEGATE:
                        negate();
                        break;
                    default:
                        combine(program.get(at));
                }
            }
            dropEmptyLines();
            return table().lines();
        }

        private Grid push(int lines, boolean named) {
            if (height < stack.length) {
                height++;
            }
            Grid grid = stack[height - 1];
            grid.shape(lines, windows, named);
            return grid;
        }

        private void pushNumber(long number) {
            Grid grid = push(1, false);
            for (int window = 0; window < windows; window++) {
                grid.put(window, number);
            }
        }

        private void negate() {
            if (height < 1) {
                return;
            }
            Grid grid = stack[height - 1];
            for (int line = 0; line < grid.lines(); line++) {
                for (int window = 0; window < windows; window++) {
                    int place = grid.placeOf(line, window);
                    if (grid.has(place)) {
                        grid.put(place, -grid.numberAt(place));
                    }
                }
            }
        }

        private void combine(int sign) {
            if (height < 2) {
                return;
            }
            Grid left = stack[height - 2];
            Grid right = stack[height - 1];
            Grid into = right.isNamed() ? right : left;
            for (int line = 0; line < into.lines(); line++) {
                for (int window = 0; window < windows; window++) {
                    int place = left.placeOf(line, window);
                    int other = right.placeOf(line, window);
                    if (left.has(place) && right.has(other) && isAllowed(sign, right.numberAt(other))) {
                        into.put(into.placeOf(line, window),
                                resultOf(sign, left.numberAt(place), right.numberAt(other)));
                    } else {
                        into.clear(into.placeOf(line, window));
                    }
                }
            }
            stack[height - 1] = into == left ? right : left;
            stack[height - 2] = into;
            height--;
        }

        private static boolean isAllowed(int sign, long right) {
            return right != 0 || sign != '/' && sign != '%';
        }

        private static long resultOf(int sign, long left, long right) {
            switch (sign) {
                case '+':
                    return left + right;
                case '-':
                    return left - right;
                case '*':
                    return left * right;
                case '/':
                    return right == 0 ? 0 : left / right;
                default:
                    return right == 0 ? 0 : left % right;
            }
        }

        private void pushFunc(int func) {
            boolean named = program.namesOf(func) > 0;
            Grid grid = push(named ? groups.size() : 1, named);
            int kind = program.kindOf(func);
            if (kind == FIRST || kind == LATEST) {
                makeMoments(grid.lines() * windows);
            }
            for (int s = 0; s < store.size(); s++) {
                Series row = store.find(s);
                if (row != null && matchesAll(row, func)) {
                    addPoints(kind, grid, named ? groups.groupOf(s) : 0, row.points());
                }
            }
        }

        private void makeMoments(int cells) {
            if (cells > moments.length) {
                moments = new long[Math.max(cells, Math.min(2 * moments.length, MOST_CELLS))];
            }
        }

        private boolean matchesAll(Series row, int func) {
            for (int m = 0; m < program.matchesOf(func); m++) {
                if (!matches(row, program.matchOf(func, m))) {
                    return false;
                }
            }
            return true;
        }

        private boolean matches(Series row, int match) {
            int label = row.labelNamed(tape, program.get(match), program.get(match + 1));
            int length = program.get(match + 4);
            boolean begins = row.valueBegins(label, tape, program.get(match + 3), length);
            boolean is = begins && row.valueLength(label) == length;
            switch (program.get(match + 2)) {
                case '=':
                    return is;
                case IS_NOT:
                    return !is;
                case BEGINS:
                    return begins;
                default:
                    return !begins;
            }
        }

        private void addPoints(int kind, Grid grid, int line, Points points) {
            if (width < 1) {
                return;
            }
            for (int i = points.firstFrom(from); i < points.size(); i++) {
                long window = (points.timeAt(i) - from) / width;
                if (window >= windows) {
                    return;
                }
                addPoint(kind, grid, grid.placeOf(line, (int) window), points, i);
            }
        }

        private void addPoint(int kind, Grid grid, int place, Points points, int i) {
            long value = points.valueAt(i);
            long before = grid.numberAt(place);
            boolean isFirst = !grid.has(place);
            switch (kind) {
                case SUM:
                    grid.put(place, before + value);
                    break;
                case COUNT:
                    grid.put(place, before + 1);
                    break;
                case LEAST:
                    grid.put(place, isFirst ? value : Math.min(before, value));
                    break;
                case MOST:
                    grid.put(place, isFirst ? value : Math.max(before, value));
                    break;
                case GROWTH:
                    if (i > 0) {
                        grid.put(place, before + grownBy(points.valueAt(i - 1), value));
                    }
                    break;
                default:
                    addMoment(kind, grid, place, points.timeAt(i), value);
            }
        }

        private static long grownBy(long before, long value) {
            return before <= value ? value - before : value;
        }

        /** Series come by rising numbers: at the same time the one that came first stays. */
        private void addMoment(int kind, Grid grid, int place, long time, long value) {
            if (place < 0 || place >= moments.length) {
                return;
            }
            boolean isNearer = kind == FIRST ? time < moments[place] : time > moments[place];
            if (isNearer || !grid.has(place)) {
                grid.put(place, value);
                moments[place] = time;
            }
        }

        private void dropEmptyLines() {
            Grid table = table();
            int kept = 0;
            for (int line = 0; line < table.lines(); line++) {
                if (!table.isEmptyLine(line)) {
                    table.moveLine(line, kept);
                    groups.moveLeader(line, kept);
                    kept++;
                }
            }
            table.keepLines(kept);
        }
    }
}
