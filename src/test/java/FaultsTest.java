import java.util.Set;

/** The faults of texts, of a series and of a question: code and place, and which counts when there are several. */
public final class FaultsTest {
    private static final int NONE = WindowTables.NONE;
    private static final String LONG = "abcdefghijklmnopqrstuvwx";
    private static final String SIX = "a=1,b=2,c=3,d=4,e=5,f=6,";
    private static final String TOO_GREAT = "9223372036854775808";

    private static final String[] TOKENS = {
        "7", "x", "sum", "by", "\"t\"", "+", "-", "*", "/", "%", "(", ")", "{", "}", ",", "=", "!=", "^=", "!^"
    };
    private static final Set<String> FACTOR = Set.of("7", "sum", "-", "(");
    private static final Set<String> NAMES = Set.of("x", "sum", "by");
    private static final Set<String> OPERATORS = Set.of("+", "-", "*", "/", "%");

    public static void main(String[] args) {
        bytesOfSeries();
        longWords();
        endsOfSeries();
        namesOfSeries();
        lesserPlace();
        afterAFaultOfASeries();
        bytesOfQuestions();
        greatNumbers();
        openTexts();
        whatCanStandWhere();
        longestTokens();
        depth();
        namesAfterBy();
        firstOnTheTape();
        clashes();
        afterAFaultOfAQuestion();
        Check.finish("FaultsTest");
    }

    private static void series(String text, int code, int place) {
        WindowTables x = new WindowTables();
        int number = Check.series(x, text);
        Check.due("series of " + text, number + ": " + x.fault(0) + " at " + x.fault(1),
                (code == 0 ? 0 : NONE) + ": " + code + " at " + place);
    }

    private static void question(String text, int code, int place) {
        WindowTables x = new WindowTables();
        int rows = Check.ask(x, text, 0, 10, 2);
        Check.due("ask of " + text, (rows == NONE) + ": " + x.fault(0) + " at " + x.fault(1),
                (code != 0) + ": " + code + " at " + place);
    }

    private static void bytesOfSeries() {
        Check.sentence("4 series: 7 at the first byte that cannot stand there");
        char[] never = {0, 9, 10, 31, ' ', '"', '(', ')', '{', '}', 127, 128, 255};
        for (char c : never) {
            series(c + "a=b", 7, 0);
            series("a" + c + "=b", 7, 1);
            series("a=" + c + "b", 7, 2);
            series("a=b" + c, 7, 3);
            series("a=b," + c, 7, 4);
            series("a=b,cc" + c + "=d", 7, 6);
        }
        series(",", 7, 0);
        series("=", 7, 0);
        series("a,", 7, 1);
        series("a=,", 7, 2);
        series("a==", 7, 2);
        series("a=b=", 7, 3);
        series("a=b,,", 7, 4);
        series("a=b,=", 7, 4);
        series("a=b,c,", 7, 5);
        series(SIX.substring(0, 23) + " ", 7, 23);
    }

    private static void longWords() {
        Check.sentence("4 series: (of a word of more than 24 bytes its 25th)");
        series(LONG + "=" + LONG, 0, 0);
        series(LONG + "y=b", 7, 24);
        series(LONG + LONG + "=b", 7, 24);
        series(LONG + "y", 7, 24);
        series("a=" + LONG + "y", 7, 26);
        series("a=" + LONG + LONG + ",b=c", 7, 26);
        series("a=b," + LONG + "y=c", 7, 28);
        series("a=b,c=" + LONG + "y", 7, 30);
        series("a=b,c=" + LONG + "y,c=d", 7, 30);
        series(LONG + ",", 7, 24);
        series(LONG + " ", 7, 24);
        series("a=" + LONG + "=", 7, 26);
        series("a=" + LONG + " ", 7, 26);
    }

    private static void endsOfSeries() {
        Check.sentence("4 series: 7 at .. the end");
        series("", 7, 0);
        series("a", 7, 1);
        series("abc", 7, 3);
        series("a=", 7, 2);
        series("a=b,", 7, 4);
        series("a=b,c", 7, 5);
        series("a=b,c=", 7, 6);
        series(LONG, 7, 24);
        series(LONG + "=", 7, 25);
        series(SIX, 7, 24);
        series(SIX + "g", 7, 25);
        series(SIX + "a", 7, 25);
    }

    private static void namesOfSeries() {
        Check.sentence("4 series: 8 at the first byte of a name, once its = is there, that was there already");
        series("a=b,a=c", 8, 4);
        series("a=b,a=", 8, 4);
        series("a=b,a", 7, 5);
        series("a=b,a,", 7, 5);
        series("a=b,a(=c", 7, 5);
        series("a=b,ab=c", 0, 0);
        series("ab=b,a=c,ab=d", 8, 9);
        series("a=b,ab=c,abc=d,ab=e", 8, 15);
        series("c=1,b=2,a=3,b=4", 8, 12);
        series("c=1,b=2,a=3,a=4", 8, 12);
        series("c=1,b=2,a=3,c=4", 8, 12);
        series(LONG + "=1," + LONG + "=1", 8, 27);
        series("a=a,b=a,=", 7, 8);
        Check.sentence("4 series: 8 .. or is the seventh");
        series(SIX.substring(0, 23), 0, 0);
        series(SIX + "g=7", 8, 24);
        series(SIX + "g=", 8, 24);
        series(SIX + "a=1", 8, 24);
        series(SIX + "g", 7, 25);
        series(SIX + LONG + "=", 8, 24);
        series(SIX + LONG + "y=", 7, 48);
        series(SIX + "=", 7, 24);
    }

    private static void lesserPlace() {
        Check.sentence("4 series: the one with the lesser place");
        series("a=b,a= ", 8, 4);
        series("a=b,a==", 8, 4);
        series("a=b,a=" + LONG + "y", 8, 4);
        series("a=b,a=c,a=d", 8, 4);
        series("a=b,a=c,", 8, 4);
        series("a=b,c=d ,a=e", 7, 7);
        series("a=b,c=,a=e", 7, 6);
        series("a=b c,a=e", 7, 3);
        series(SIX + "g=,h=8,?", 8, 24);
        series("a=1,b=2,c=3,d=4,e=5 ,f=6,g=7", 7, 19);
    }

    private static void afterAFaultOfASeries() {
        Check.sentence("4 series: NONE, if it has a fault");
        WindowTables x = new WindowTables();
        Check.series(x, "a=1");
        Check.ask(x, "7", 0, 1, 1);
        Check.due("a fault", Check.series(x, "a=2,b=3,a=4"), NONE);
        Check.due("no series came", x.count(0), 1);
        Check.due("the table stays", x.cell(0, 0), 7);
        Check.refused("the tape is empty", IllegalArgumentException.class, () -> Check.end(x, 1));
        Check.due("it is a new one now", Check.series(x, "a=2,b=3"), 1);
    }

    private static void bytesOfQuestions() {
        Check.sentence("FAULT 1: at the first byte with which none of these .. begins");
        for (int b = 0; b < 256; b++) {
            boolean begins = b == ' ' || b == '"' || b >= '0' && b <= '9' || b >= 'a' && b <= 'z'
                    || b >= 'A' && b <= 'Z' || "_+-*/%(){},=".indexOf(b) >= 0;
            if (!begins) {
                String bad = String.valueOf((char) b);
                question(bad, 1, 0);
                question("1" + bad, 1, 1);
                question("1 + " + bad, 1, 4);
                question("sum ({a " + bad + "\"b\"})", 1, 8);
            }
        }
        question("sum({a! =\"b\"})", 1, 6);
        question("sum({a!", 1, 6);
        question("sum({a^", 1, 6);
        question("sum({a^^=\"b\"})", 1, 6);
        question("sum({a!!=\"b\"})", 1, 6);
        question("sum({a=!\"b\"})", 1, 7);
    }

    private static void greatNumbers() {
        Check.sentence("NUMBER: digits, at most 9223372036854775807; FAULT 1 at a NUMBER that is more");
        question("9223372036854775807", 0, 0);
        question(TOO_GREAT, 1, 0);
        question("9223372036854775810", 1, 0);
        question("10000000000000000000", 1, 0);
        question("18446744073709551617", 1, 0);
        question("18446744073709551616000000000000000000000000000000000000001", 1, 0);
        question("0009223372036854775807", 0, 0);
        question("000" + TOO_GREAT, 1, 0);
        question("0".repeat(300), 0, 0);
        question("-9223372036854775807", 0, 0);
        question("-" + TOO_GREAT, 1, 1);
        question("1 + " + TOO_GREAT, 1, 4);
        question(TOO_GREAT + "a", 1, 0);
        question("sum({})" + TOO_GREAT, 1, 7);
        question("sum by (" + TOO_GREAT, 1, 8);
    }

    private static void openTexts() {
        Check.sentence("TEXT: \" and bytes 32 .. 126 without \" and \"; FAULT 1 at a \" that is not ended so");
        for (int b = 0; b < 256; b++) {
            boolean fits = b >= 32 && b <= 126 && b != '"';
            question("sum({a=\"" + (char) b + "\"})", fits ? 0 : 1, fits ? 0 : b == '"' ? 9 : 7);
            question("sum({a=\"bc" + (char) b + "\"})", fits ? 0 : 1, fits ? 0 : b == '"' ? 11 : 7);
        }
        question("sum({a=\"\"})", 0, 0);
        question("sum({a=\"", 1, 7);
        question("sum({a=\"b", 1, 7);
        question("sum({a=\"b})", 1, 7);
        question("sum({a=\"b\",c=\"d})", 1, 13);
        question("\"", 1, 0);
        question("1 \"", 1, 2);
        question("sum({a=\"" + "b".repeat(300) + "\"})", 0, 0);
    }

    /**
     * Behind a beginning each token either can stand, so that the end is what is wrong (but where it makes the question
     * whole), or is the fault itself. With "" the beginning itself is whole.
     */
    private static void behind(String beginning, Set<String> can, String... whole) {
        String all = beginning + " ";
        Set<String> ends = Set.of(whole);
        boolean isWhole = ends.contains("");
        question(all, isWhole ? 0 : 2, isWhole ? 0 : all.length());
        question(all + "  ", isWhole ? 0 : 2, isWhole ? 0 : all.length() + 2);
        for (String token : TOKENS) {
            String text = all + token;
            if (!can.contains(token)) {
                question(text, 2, all.length());
                question(text + " ?", 2, all.length());
            } else {
                question(text, ends.contains(token) ? 0 : 2, ends.contains(token) ? 0 : text.length());
                question(text + " ?", 1, text.length() + 1);
            }
        }
        question(all + "?", 1, all.length());
        question(all + TOO_GREAT, 1, all.length());
        question(all + "\"", 1, all.length());
    }

    private static void whatCanStandWhere() {
        Check.sentence("FAULT 2: at the first of them that cannot stand there, or the end");
        question("", 2, 0);
        String[] beforeFactors = {"", "-", "1 +", "1 -", "1 *", "1 /", "1 %", "(1) - -", "sum({}) -"};
        for (String beginning : beforeFactors) {
            behind(beginning, FACTOR, "7");
        }
        behind("(", FACTOR);
        behind("(1 +", FACTOR);
        behind("-(", FACTOR);
        String[] wholes = {"1", "-1", "(1)", "1 + 2", "1 * 2", "sum({})", "sum by (a) ({})"};
        for (String whole : wholes) {
            behind(whole, OPERATORS, "");
        }
        behind("(1", Set.of("+", "-", "*", "/", "%", ")"), ")");
        behind("((1)", Set.of("+", "-", "*", "/", "%", ")"), ")");
        behind("sum", Set.of("by", "("));
        behind("sum by", Set.of("("));
        behind("sum by (", NAMES);
        behind("sum by (y", Set.of(",", ")"));
        behind("sum by (y,", NAMES);
        behind("sum by (y)", Set.of("("));
        behind("sum (", Set.of("{"));
        behind("sum by (y) (", Set.of("{"));
        behind("sum ({", Set.of("x", "sum", "by", "}"));
        behind("sum ({y", Set.of("=", "!=", "^=", "!^"));
        behind("sum ({y =", Set.of("\"t\""));
        behind("sum ({y !=", Set.of("\"t\""));
        behind("sum ({y ^=", Set.of("\"t\""));
        behind("sum ({y !^", Set.of("\"t\""));
        behind("sum ({y = \"t\"", Set.of(",", "}"));
        behind("sum ({y = \"t\",", NAMES);
        behind("sum ({}", Set.of(")"), ")");
        behind("sum ({y = \"t\"}", Set.of(")"), ")");
    }

    private static void longestTokens() {
        Check.sentence("NAME: a row of letters, digits and _ that begins with no digit");
        question("sum by (_) ({})", 0, 0);
        question("sum by (azAZ09_) ({})", 0, 0);
        question("sum by (_0) ({})", 0, 0);
        question("sum by (0_) ({})", 2, 8);
        question("sum by (a.b) ({})", 1, 9);
        question("sum by (" + "n".repeat(300) + ") ({})", 0, 0);
        Check.sentence("(so are by and the FUNCs, which are names, too, after by and in matches)");
        question("sum by (by) ({by=\"\"})", 0, 0);
        question("most by (sum,count,least,most,first,latest) ({growth=\"\",sum!=\"\",by^=\"\"})", 0, 0);
        question("by", 2, 0);
        question("by(a)({})", 2, 0);
        question("sum by by (a) ({})", 2, 7);
        question("sum sum ({})", 2, 4);
        Check.sentence("FUNC is one of sum, count, least, most, first, latest, growth");
        String[] funcs = {"sum", "count", "least", "most", "first", "latest", "growth"};
        for (String func : funcs) {
            question(func + "({})", 0, 0);
            question(func + " by (a) ({})", 0, 0);
            question(func + "s({})", 2, 0);
            question(func.substring(1) + "({})", 2, 0);
            question(func.substring(0, func.length() - 1) + "({})", 2, 0);
            question(func.substring(0, 1).toUpperCase() + func.substring(1) + "({})", 2, 0);
            question(func + "_({})", 2, 0);
        }
        Check.sentence("Each as long as may be");
        question("1sum({})", 2, 1);
        question("1+2x", 2, 3);
        question("12 34", 2, 3);
        question("sumby(a)({})", 2, 0);
        question("sum by(a)({})", 0, 0);
        question("sum bya({})", 2, 4);
        question("sum({a!^=\"b\"})", 2, 8);
        question("sum({a^==\"b\"})", 2, 8);
        question("sum({a!==\"b\"})", 2, 8);
        question("sum({a\"b\"})", 2, 6);
        Check.sentence("blanks (32) may stand between them");
        question("   sum   by   (   a   ,   b   )   (   {   c   =   \"d\"   ,   e   !^   \"f\"   }   )   ", 0, 0);
        question("su m({})", 2, 0);
        question("sum({a! ^\"b\"})", 1, 6);
        question("sum({a^ =\"b\"})", 1, 6);
        question("1\t+ 2", 1, 1);
        question("1\n", 1, 1);
    }

    private static void depth() {
        Check.sentence("FAULT 3: at a ( or a - before a factor with which more than 8 of these are open");
        question("((((((((1))))))))", 0, 0);
        question("(((((((((1)))))))))", 3, 8);
        question("--------1", 0, 0);
        question("---------1", 3, 8);
        question("(-(-(-(-1))))", 0, 0);
        question("(-(-(-(--1))))", 3, 8);
        question("(-(-(-(-(1)))))", 3, 8);
        question(" ( ( ( ( ( ( ( ( ( 1", 3, 17);
        question("1 + 2 * ---------1", 3, 16);
        question("(((((((((", 3, 8);
        question("---------", 3, 8);
        question("((((((((", 2, 8);
        question("--------", 2, 8);
        Check.sentence("( to its closing one");
        question("((((((((1)))))))) * ((((((((1))))))))", 0, 0);
        question("(((((((1) + (1) - (1)))))))", 0, 0);
        question("(((((((1) + (1) - ((1))))))))", 0, 0);
        question("(((((((1) + (1) - (((1)))))))))", 3, 20);
        Check.sentence("but not that of by or of a FUNC");
        question("((((((((sum by (a) ({b=\"c\"})))))))))", 0, 0);
        question("--------sum by (a) ({})", 0, 0);
        question("((((((((sum({}) + sum by (a) ({})))))))))", 0, 0);
        question("((((((((sum({}) + (1", 3, 18);
        Check.sentence("- to the end of its factor");
        question("--------1 - --------1", 0, 0);
        question("--------1 * --------1", 0, 0);
        question("-------(1) + -------(1)", 0, 0);
        question("-------(1 * 1 - 1)", 0, 0);
        question("-------(1 * -1)", 3, 12);
        question("-------(1) * -1", 0, 0);
        question("(-------1 + -------1)", 0, 0);
        question("((((((((1 - 1 - 1))))))))", 0, 0);
        question("((((((((1 - -1", 3, 12);
        question("(((((((-1 - -1 * -1)))))))", 0, 0);
    }

    private static void namesAfterBy() {
        Check.sentence("4: at a NAME after by that was there already");
        question("sum by (a,a) ({})", 4, 10);
        question("sum by (a,b,c,d,e,a) ({})", 4, 18);
        question("sum by (a,b,c,d,e,e) ({})", 4, 18);
        question("sum by (a , a", 4, 12);
        question("sum by (a,A,aa,a_,a1) ({})", 0, 0);
        question("sum by (a) ({}) + sum by (a) ({})", 0, 0);
        question("sum by (a) ({a=\"1\",a=\"1\"})", 0, 0);
        String name = "n".repeat(30);
        question("sum by (" + name + "," + name + "n) ({})", 0, 0);
        question("sum by (" + name + "," + name + ") ({})", 4, 39);
        Check.sentence("4: .. or is the seventh");
        question("sum by (a,b,c,d,e,f) ({})", 0, 0);
        question("sum by (a,b,c,d,e,f,g) ({})", 4, 20);
        question("sum by (a,b,c,d,e,f,a) ({})", 4, 20);
        question("sum by (a,b,c,d,e,f,g", 4, 20);
        question("sum by (a,b,c,d,e,f,", 2, 20);
        question("sum by (a,b,c,d,e,f,7", 2, 20);
        question("sum by (a,b,c,d,e,f) ({}) - sum by (a,b,c,d,e,f,g) ({})", 4, 48);
    }

    private static void firstOnTheTape() {
        Check.sentence("The one that is first on the tape counts");
        String[] faults = {"?", " )", " ---------1", " sum by (a,a) ({})"};
        int[] codes = {1, 2, 3, 4};
        int[] places = {0, 1, 9, 11};
        for (int first = 0; first < 4; first++) {
            for (int then = 0; then < 4; then++) {
                question("1 +" + faults[first] + faults[then], codes[first], 3 + places[first]);
            }
        }
        question("sum by (a,a ?", 4, 10);
        question("sum by (a ? a", 1, 10);
        question("sum by (a a,a", 2, 10);
        question("((((((((" + TOO_GREAT + "(", 1, 8);
        question("(((((((((" + TOO_GREAT, 3, 8);
        question(")" + TOO_GREAT, 2, 0);
        question("1 \"a\" \"", 2, 2);
    }

    private static void clashes() {
        Check.sentence("Then 5: at the first operator .. with two TABLES that do not go together");
        String a = "sum by(a)({})";
        String b = "sum by(b)({})";
        for (char sign : "+-*/%".toCharArray()) {
            question(a + sign + b, 5, 13);
            question(a + sign + a, 0, 0);
            question(a + sign + "sum({})", 0, 0);
            question("1" + sign + a, 0, 0);
        }
        question("sum by(a,b)({})+sum by(b,a)({})", 5, 15);
        question("sum by(a,b)({})+sum by(a)({})", 5, 15);
        question("sum by(a)({})+sum by(a,b)({})", 5, 13);
        question("sum by(a)({})+sum by(ab)({})", 5, 13);
        question("sum by(a,b)({})+most by(a,b)({c=\"d\"})", 0, 0);
        question(a + "+(1-" + b + ")", 5, 13);
        question("-" + a + "+-" + b, 5, 14);
        question("(" + a + ")  *  (" + b + ")", 5, 17);
        Check.sentence("5: (operands first, from the left)");
        question(a + "+" + b + "*" + a, 5, 27);
        question(a + "*" + b + "+" + a, 5, 13);
        question(a + "+" + b + "+" + b, 5, 13);
        question(a + "+" + a + "-" + b, 5, 27);
        question(a + "+1-" + b, 5, 15);
        question("1-" + a + "+" + b, 5, 15);
        question(a + "+(" + b + "-" + a + ")", 5, 28);
        question("(" + a + "+" + b + ")*(" + b + "-" + a + ")", 5, 14);
        question(a + "*(1+" + b + "*(" + a + "%" + b + "))", 5, 45);
        Check.sentence("Then 5: behind all others, wherever they are");
        question(a + "+" + b + "?", 1, 27);
        question(a + "+" + b + "+", 2, 28);
        question(a + "+" + b + " 1", 2, 28);
        question(a + "+" + b + "+---------1", 3, 36);
        question(a + "+" + b + "+sum by(c,c)({})", 4, 37);
    }

    private static void afterAFaultOfAQuestion() {
        Check.sentence("11 ask: NONE, if it has a fault: then there is no table; the tape is empty then, with a fault, too");
        String[] faults = {"?", "1 1", "---------1", "sum by (a,a) ({})", "sum by (a) ({}) + sum by (b) ({})", ""};
        int[] codes = {1, 2, 3, 4, 5, 2};
        for (int k = 0; k < faults.length; k++) {
            WindowTables x = new WindowTables();
            Check.series(x, "a=1");
            x.append(0, 1, 1);
            Check.due("a table", Check.answered(x, "sum by (a) ({})", 0, 10, 2), "1: 1 .");
            Check.due(faults[k], Check.ask(x, faults[k], 0, 10, 2), NONE);
            Check.due("code", x.fault(0), codes[k]);
            Check.refused("the tape is empty", IllegalArgumentException.class, () -> Check.end(x, 1));
            Check.due("no table", x.names(), NONE);
            Check.refused("no table", IndexOutOfBoundsException.class, () -> x.text(0, 0, 0));
            Check.refused("no table", IndexOutOfBoundsException.class, () -> x.cell(0, 0));
            Check.refused("no table", IndexOutOfBoundsException.class, () -> x.isThere(0, 0) ? 1 : 0);
            Check.due("a table again", Check.answered(x, "sum by (a) ({})", 0, 10, 2), "1: 1 .");
        }
    }
}
