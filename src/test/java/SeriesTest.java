/** Promises 4, 5 and 6: series, fault, letter. */
public final class SeriesTest {
    private static final String LONG = "abcdefghijklmnopqrstuvwx";

    public static void main(String[] args) {
        textsAndNumbers();
        orderOfNames();
        faultsOfBytes();
        faultsOfLabels();
        wordBytes();
        lettersAndFaults();
        limit();
        Check.finish("SeriesTest");
    }

    private static void textsAndNumbers() {
        WindowTables x = new WindowTables();
        Check.due("first", Check.series(x, "a=1"), 0);
        Check.due("second", Check.series(x, "a=2"), 1);
        Check.due("first again", Check.series(x, "a=1"), 0);
        Check.due("third", Check.series(x, "b=2,a=1"), 2);
        Check.due("third again", Check.series(x, "a=1,b=2"), 2);
        Check.due("fourth", Check.series(x, "a=1,b=1"), 3);
        Check.due("fifth", Check.series(x, "a=12"), 4);
        Check.due("how many", x.count(0), 5);
        Check.due("text", Check.textOf(x, 2), "a=1,b=2");
        Check.due("a series that was there: the tape is empty", x.feed(0, 0, 0, 0, 0), 20);
        x.end(0);
        Check.due("a fault", Check.series(x, "a"), WindowTables.NONE);
        Check.due("the tape is empty then", x.feed(0, 0, 0, 0, 0), 20);
        x.end(0);
        Check.due("longest", Check.series(x, longest()), 5);
        Check.due("its text", Check.textOf(x, 5), longest());
        Check.due("its last letter", x.letter(5, 298), 'x');
        Check.due("behind it", x.letter(5, 299), WindowTables.NONE);
    }

    private static String longest() {
        StringBuilder text = new StringBuilder();
        for (char c = '1'; c <= '6'; c++) {
            text.append(c == '1' ? "" : ",").append(LONG.substring(1)).append(c).append('=').append(LONG);
        }
        return text.toString();
    }

    private static void orderOfNames() {
        WindowTables x = new WindowTables();
        Check.series(x, "f=1,e=2,d=3,c=4,b=5,a=6");
        Check.due("turned round", Check.textOf(x, 0), "a=6,b=5,c=4,d=3,e=2,f=1");
        Check.series(x, "ab=1,a=2,b=3,a.=4,aa=5,A=6");
        // The byte . is less than =, and still a comes before a.
        Check.due("beginnings first", Check.textOf(x, 1), "A=6,a=2,a.=4,aa=5,ab=1,b=3");
        Check.due("in another order", Check.series(x, "b=3,A=6,aa=5,ab=1,a.=4,a=2"), 1);
        Check.series(x, "~=!,!=~");
        Check.due("least and greatest byte", Check.textOf(x, 2), "!=~,~=!");
    }

    private static void fault(String text, int code, int place) {
        WindowTables x = new WindowTables();
        Check.due("series of " + text, Check.series(x, text), WindowTables.NONE);
        Check.due("code for " + text, x.fault(0), code);
        Check.due("place for " + text, x.fault(1), place);
        Check.due("series after " + text, x.count(0), 0);
        Check.due("the tape after " + text, x.feed(0, 0, 0, 0, 0), 20);
    }

    private static void faultsOfBytes() {
        fault("", 7, 0);
        fault("a", 7, 1);
        fault("a=", 7, 2);
        fault("a=b,", 7, 4);
        fault("=", 7, 0);
        fault(",a=b", 7, 0);
        fault("a,b=c", 7, 1);
        fault("a=,", 7, 2);
        fault("a==b", 7, 2);
        fault("a=b=c", 7, 3);
        fault("a=b,,c=d", 7, 4);
        fault("a=b,=d", 7, 4);
        fault("a=b c=d", 7, 3);
        fault(" a=b", 7, 0);
        fault("a=b\0", 7, 3);
        fault("a=(b)", 7, 2);
        fault("{a=b}", 7, 0);
        fault("a=b}", 7, 3);
        fault("\u00ff=b", 7, 0);
        fault(LONG, 7, 24);
        fault(LONG + "y=1", 7, 24);
        fault(LONG + "=" + LONG + "y", 7, 49);
        fault(LONG + "=" + LONG + ",", 7, 50);
        fault(LONG + "=" + LONG + " ", 7, 49);
        WindowTables x = new WindowTables();
        Check.due("words of 24", Check.series(x, LONG + "=" + LONG), 0);
    }

    private static void faultsOfLabels() {
        fault("a=b,a=c", 8, 4);
        fault("a=b,a=", 8, 4);
        fault("a=b,a==", 8, 4);
        fault("a=b,a", 7, 5);
        fault("a=b,a,", 7, 5);
        fault("a=b,c=d,a=e,?", 8, 8);
        fault("a=b,c=d e,a=f", 7, 7);
        fault("a=1,b=2,c=3,d=4,e=5,f=6,g=7", 8, 24);
        fault("a=1,b=2,c=3,d=4,e=5,f=6,g=", 8, 24);
        fault("a=1,b=2,c=3,d=4,e=5,f=6,g", 7, 25);
        fault("a=1,b=2,c=3,d=4,e=5,f=6,", 7, 24);
        fault("a=1,b=2,c=3,d=4,e=5,f=6,a=7", 8, 24);
        fault("a=1,b=2,c=3,d=4,e=5,f=6;,g=7,(", 8, 25);
        fault("a=b,ab=c,aa=d,ab=e", 8, 14);
        fault("a=1," + LONG + "=2," + LONG + "y=3", 7, 55);
        fault("a=1," + LONG + "=2," + LONG + "=3", 8, 31);
    }

    private static void wordBytes() {
        for (int b = 0; b < 256; b++) {
            WindowTables x = new WindowTables();
            boolean isWord = b >= 33 && b <= 126 && "\"=,(){}".indexOf(b) < 0;
            Check.due("a name of byte " + b, Check.series(x, (char) b + "=v"), isWord ? 0 : WindowTables.NONE);
            Check.due("a value of byte " + b, Check.series(x, "n=" + (char) b), isWord ? 1 : WindowTables.NONE);
            if (isWord) {
                Check.due("its letter", x.letter(1, 2), b);
            }
        }
    }

    private static void lettersAndFaults() {
        WindowTables x = new WindowTables();
        Check.series(x, "b=2,a=1");
        Check.due("letter(0, 0)", x.letter(0, 0), 'a');
        Check.due("letter(0, 3)", x.letter(0, 3), ',');
        Check.due("letter(0, 6)", x.letter(0, 6), '2');
        Check.due("letter(0, 7)", x.letter(0, 7), WindowTables.NONE);
        Check.due("letter(0, -1)", x.letter(0, -1), WindowTables.NONE);
        Check.due("letter(0, least)", x.letter(0, Integer.MIN_VALUE), WindowTables.NONE);
        Check.due("letter(0, most)", x.letter(0, Integer.MAX_VALUE), WindowTables.NONE);
        Check.refused("letter(1, 0)", IndexOutOfBoundsException.class, () -> x.letter(1, 0));
        Check.refused("letter(-1, 0)", IndexOutOfBoundsException.class, () -> x.letter(-1, 0));
        Check.refused("letter(most, -1)", IndexOutOfBoundsException.class, () -> x.letter(Integer.MAX_VALUE, -1));
        Check.series(x, "a=b,?");
        Check.due("fault(0)", x.fault(0), 7);
        Check.due("fault(1)", x.fault(1), 5);
        Check.refused("fault(2)", IndexOutOfBoundsException.class, () -> x.fault(2));
        Check.refused("fault(-1)", IndexOutOfBoundsException.class, () -> x.fault(-1));
        Check.feed(x, "1 +");
        Check.refused("ask", IllegalArgumentException.class, () -> x.ask(-1, 1, 1));
        Check.due("a call that throws leaves the fault", x.fault(0), 7);
        Check.due("ask", x.ask(0, 1, 1), WindowTables.NONE);
        Check.due("fault(0) of the question", x.fault(0), 2);
        Check.due("fault(1) of the question", x.fault(1), 3);
        Check.due("bulk", x.bulk(0), 0);
        Check.due("other calls leave the fault", x.fault(0), 2);
        Check.due("a series", Check.series(x, "a=1,b=2"), 0);
        Check.due("no fault", x.fault(0), 0);
        Check.due("no place", x.fault(1), 0);
        Check.series(x, "a=b,?");
        Check.due("a question", Check.ask(x, "1", 0, 1, 1), 1);
        Check.due("no fault", x.fault(0), 0);
        Check.due("no place", x.fault(1), 0);
    }

    private static void limit() {
        WindowTables x = new WindowTables();
        for (int s = 0; s < 256; s++) {
            Check.due("series " + s, Check.series(x, "n=" + s), s);
        }
        Check.due("a fault with 256", Check.series(x, "n="), WindowTables.NONE);
        Check.feed(x, "n=256");
        Check.refused("series 256", UnsupportedOperationException.class, x::series);
        Check.due("the fault is still there", x.fault(0), 7);
        Check.refused("once more: the tape is still there", UnsupportedOperationException.class, x::series);
        x.end(4);
        Check.due("one that is there", x.series(), 25);
        Check.due("how many", x.count(0), 256);
        Check.due("its text", Check.textOf(x, 255), "n=255");
    }
}
