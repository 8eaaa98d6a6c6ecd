/** Promise 11 and the faults of questions (promise 5): what can be asked, and what is refused. */
public final class QuestionTest {
    private static final long MOST = 1099511627775L;

    public static void main(String[] args) {
        arguments();
        faultOne();
        faultTwo();
        faultThree();
        faultFour();
        faultFive();
        theFirstOneCounts();
        goodForms();
        bytesOutside();
        replacing();
        Check.finish("QuestionTest");
    }

    private static void arguments() {
        WindowTables x = new WindowTables();
        Check.due("a table", Check.ask(x, "7", 0, 1, 1), 1);
        Check.feed(x, "8");
        refused(x, -1, 1, 1);
        refused(x, MOST + 1, 1, 1);
        refused(x, Long.MIN_VALUE, 1, 1);
        refused(x, 0, 0, 1);
        refused(x, 0, -1, 1);
        refused(x, 0, MOST + 1, 1);
        refused(x, 0, 1, 0);
        refused(x, 0, 1, 65);
        refused(x, 0, 1, Integer.MIN_VALUE);
        Check.due("the table stays", x.cell(0, 0), 7);
        Check.due("the tape stays", x.ask(MOST, MOST, 64), 1);
        Check.due("the last window", x.cell(0, 63), 8);
        Check.due("the tape is empty then", x.feed(0, 0, 0, 0, 0), 20);
        x.end(0);
        Check.due("an empty question", x.ask(0, 1, 1), WindowTables.NONE);
        Check.due("code", x.fault(0), 2);
        Check.due("place", x.fault(1), 0);
        Check.feed(x, "8");
        refused(x, -1, 1, 1);
        Check.due("the fault stays", x.fault(0), 2);
        Check.due("no table stays", x.names(), WindowTables.NONE);
        x.ask(0, 1, 1);
        Check.feed(x, "8 8");
        x.ask(0, 1, 1);
        Check.due("the tape is empty with a fault, too", x.feed(0, 0, 0, 0, 0), 20);
    }

    private static void refused(WindowTables x, long from, long width, int n) {
        Check.refused("ask(" + from + ", " + width + ", " + n + ")", IllegalArgumentException.class,
                () -> x.ask(from, width, n));
    }

    private static void fault(String question, int code, int place) {
        WindowTables x = new WindowTables();
        Check.ask(x, "1", 0, 1, 1);
        Check.due(question, Check.answered(x, question, 0, 10, 2), "fault " + code + " at " + place);
        Check.due("names() after " + question, x.names(), WindowTables.NONE);
        Check.refused("cell after " + question, IndexOutOfBoundsException.class, () -> x.cell(0, 0));
    }

    private static void good(String question) {
        WindowTables x = new WindowTables();
        Check.feed(x, question);
        Check.due(question, x.ask(0, 10, 2) == WindowTables.NONE ? 0 : 1, 1);
        Check.due("fault of " + question, x.fault(0), 0);
        Check.due("place of " + question, x.fault(1), 0);
    }

    private static void faultOne() {
        fault("?", 1, 0);
        fault("1 + ?", 1, 4);
        fault("1 + 2 ; 3", 1, 6);
        fault("1\t", 1, 1);
        fault("1.5", 1, 1);
        fault("9223372036854775808", 1, 0);
        fault("1 + 9223372036854775808", 1, 4);
        fault("-9223372036854775808", 1, 1);
        fault("99999999999999999999999999999999999999", 1, 0);
        fault("1 9223372036854775808", 1, 2);
        fault("sum({a=\"b})", 1, 7);
        fault("sum({a=\"", 1, 7);
        fault("sum({a=\"b\u007f\"})", 1, 7);
        fault("sum({a=\"b\u001f\"})", 1, 7);
        fault("sum({a=\"b\u00ff\"})", 1, 7);
        fault("1 \"abc", 1, 2);
        fault("sum({a!\"b\"})", 1, 6);
        fault("sum({a^\"b\"})", 1, 6);
        fault("sum({a! =\"b\"})", 1, 6);
        fault("sum({a^", 1, 6);
        fault("sum({a!", 1, 6);
        fault("sum({a.b=\"c\"})", 1, 6);
        fault("[1]", 1, 0);
        fault("\0", 1, 0);
    }

    private static void faultTwo() {
        fault("", 2, 0);
        fault("   ", 2, 3);
        fault("1 +", 2, 3);
        fault("1 +  ", 2, 5);
        fault("+1", 2, 0);
        fault("1 2", 2, 2);
        fault("1a", 2, 1);
        fault("1_", 2, 1);
        fault("1 * / 2", 2, 4);
        fault("()", 2, 1);
        fault("(1", 2, 2);
        fault("1)", 2, 1);
        fault("(1))", 2, 3);
        fault("\"a\"", 2, 0);
        fault("1 \"abc\"", 2, 2);
        fault("1 = 1", 2, 2);
        fault("by", 2, 0);
        fault("a", 2, 0);
        fault("sums({})", 2, 0);
        fault("Sum({})", 2, 0);
        fault("sumby(a)({})", 2, 0);
        fault("sum({}", 2, 6);
        fault("sum()", 2, 4);
        fault("sum{}", 2, 3);
        fault("sum 1", 2, 4);
        fault("sum by", 2, 6);
        fault("sum by a", 2, 7);
        fault("sum By (a) ({})", 2, 4);
        fault("sum by (1) ({})", 2, 8);
        fault("sum by (a", 2, 9);
        fault("sum by (a b) ({})", 2, 10);
        fault("sum by (a,) ({})", 2, 10);
        fault("sum by (,a) ({})", 2, 8);
        fault("sum by (a)", 2, 10);
        fault("sum by (a) by (b) ({})", 2, 11);
        fault("sum by (\"a\") ({})", 2, 8);
        fault("sum({a})", 2, 6);
        fault("sum({a=})", 2, 7);
        fault("sum({a=b})", 2, 7);
        fault("sum({a==\"b\"})", 2, 7);
        fault("sum({a!^=\"b\"})", 2, 8);
        fault("sum({a=\"b\",})", 2, 11);
        fault("sum({,a=\"b\"})", 2, 5);
        fault("sum({a=\"b\" c=\"d\"})", 2, 11);
        fault("sum({\"a\"=\"b\"})", 2, 5);
        fault("sum({1=\"b\"})", 2, 5);
        fault("sum({a+\"b\"})", 2, 6);
        fault("sum({a=\"b\"}) 1", 2, 13);
        fault("-", 2, 1);
        fault("1 - - ", 2, 6);
        fault("(1 + ) 2", 2, 5);
    }

    private static void faultThree() {
        good("((((((((1))))))))");
        fault("(((((((((1)))))))))", 3, 8);
        good("--------1");
        fault("---------1", 3, 8);
        fault("- - - - - - - - - 1", 3, 16);
        good("-(-(-(-(1))))");
        fault("-(-(-(-(-1))))", 3, 8);
        fault("-(-(-(-((1)))))", 3, 8);
        good("((((((((1 - 2 - 3 - 4))))))))");
        fault("((((((((1 - -2))))))))", 3, 12);
        good("(((((((1 - -2 - -3 * -4)))))))");
        good("((((((((sum({})))))))))");
        good("--------sum by (a) ({})");
        good("((((((((1)))))))) + ((((((((1))))))))");
        good("--------1 - --------1");
        good("-------(1) - -------(1)");
        fault("-------(1 - -1)", 3, 12);
        fault("-------((1) + 1)", 3, 8);
        good("-----((1) + (1) * (-1))");
        fault("-----((1) + (1) * (--1))", 3, 20);
        fault("((((((((", 2, 8);
        fault("(((((((((", 3, 8);
        fault("(((((((((?", 3, 8);
    }

    private static void faultFour() {
        fault("sum by (a,a) ({})", 4, 10);
        fault("sum by (a,b,a ?", 4, 12);
        fault("sum by (a,b,c,d,e,f,g) ({})", 4, 20);
        fault("sum by (a,b,c,d,e,f,a) ({})", 4, 20);
        fault("sum by (a,b,c,d,e,f,g", 4, 20);
        fault("sum by (a,b,c,d,e,f,", 2, 20);
        fault("sum by (a,b,c,d,e,f,1", 2, 20);
        fault("1 + sum by (by,sum,by) ({})", 4, 19);
        good("sum by (a,b,c,d,e,f) ({})");
        good("sum by (a,aa,A,_a) ({})");
        fault("sum by (abcdefghijklmnopqrstuvwxyz, abcdefghijklmnopqrstuvwxyz) ({})", 4, 36);
        good("sum by (abcdefghijklmnopqrstuvwxyz1, abcdefghijklmnopqrstuvwxyz2) ({})");
    }

    private static void faultFive() {
        fault("sum by (a) ({}) + sum by (b) ({})", 5, 16);
        fault("sum by (a,b) ({}) + sum by (b,a) ({})", 5, 18);
        fault("sum by (a,b) ({}) + sum by (a) ({})", 5, 18);
        fault("sum by (a) ({}) + sum by (aa) ({})", 5, 16);
        good("sum by (a,b) ({}) + sum by ( a , b ) ({})");
        good("sum by (a) ({}) + sum({})");
        good("1 - sum({}) * sum by (a) ({}) / 3");
        // Operands first: the product is there before the sum.
        fault("sum by(a)({})+sum by(b)({})*sum by(c)({})", 5, 27);
        fault("sum by(a)({})+(sum by(b)({})%sum by(c)({}))", 5, 28);
        fault("sum by(a)({})/sum by(b)({})+sum by(c)({})", 5, 13);
        fault("(1+sum by(a)({}))-(sum by(b)({})*2)", 5, 17);
        fault("sum by(a)({})+1-sum by(b)({})", 5, 15);
        fault("-sum by(a)({})+1*-sum by(b)({})", 5, 14);
        fault("sum by(a)({})+(sum by(b)({})*sum by(b)({}))", 5, 13);
    }

    private static void theFirstOneCounts() {
        fault("1 2 ?", 2, 2);
        fault("1 ? 2", 1, 2);
        fault("sum by (a,a ? ", 4, 10);
        fault("sum by (a ? ,a", 1, 10);
        fault("sum by (a a,a)", 2, 10);
        fault("(((((((((9223372036854775808", 3, 8);
        fault("((((((((9223372036854775808(", 1, 8);
        fault("sum by (a) ({}) + sum by (b) ({}) ?", 1, 34);
        fault("sum by (a) ({}) + sum by (b) ({}) +", 2, 35);
        fault("sum by (a) ({}) + sum by (b) ({}) + ---------1", 3, 44);
        fault("sum by (a) ({}) + sum by (b) ({}) + sum by (c,c) ({})", 4, 46);
    }

    private static void goodForms() {
        good("0");
        good("9223372036854775807");
        good("000000000000000000000000000009223372036854775807");
        good("  1  +  2  ");
        good("1+2-3*4/5%6");
        good("sum({})");
        good(" sum ( { } ) ");
        good("sum by(a)({a=\"\"})");
        good("count by ( by , sum ) ( { count != \"x\" , by ^= \"y\" , most !^ \"\" , most = \" !~\" } )");
        good("least({a=\"1\",a=\"1\",a!=\"2\"})+most({})+first({})+latest({})+growth({})");
        good("sum({_1A=\"{}()=,\"})");
        good("sum({a!=\"b\",c^=\"d\",e!^\"f\"})");
        good("sum({a !^ \"b\"})");
    }

    private static void bytesOutside() {
        for (int b = 0; b < 256; b++) {
            boolean begins = b == ' ' || b >= '0' && b <= '9' || b >= 'a' && b <= 'z' || b >= 'A' && b <= 'Z'
                    || "_+-*/%(){},=".indexOf(b) >= 0;
            WindowTables x = new WindowTables();
            Check.ask(x, "(" + (char) b, 0, 1, 1);
            Check.due("code of byte " + b, x.fault(0), begins ? 2 : 1);
            WindowTables y = new WindowTables();
            Check.ask(y, "sum({a=\"" + (char) b + "\"})", 0, 1, 1);
            boolean quoted = b >= 32 && b <= 126;
            Check.due("code of byte " + b + " in a text", y.fault(0), b == '"' ? 1 : quoted ? 0 : 1);
        }
    }

    private static void replacing() {
        WindowTables x = new WindowTables();
        Check.series(x, "a=1");
        x.append(0, 1, 5);
        Check.due("a table", Check.answered(x, "sum by (a) ({})", 0, 5, 2), "1: 5 .");
        Check.due("names", x.names(), 1);
        Check.due("another one", Check.answered(x, "3", 0, 5, 1), ": 3");
        Check.due("names", x.names(), 0);
        Check.refused("its windows are gone", IndexOutOfBoundsException.class, () -> x.cell(0, 1));
        Check.due("no rows", Check.ask(x, "sum by (a,b) ({a=\"2\"})", 0, 5, 1), 0);
        Check.due("but names", x.names(), 2);
        Check.refused("no row", IndexOutOfBoundsException.class, () -> x.text(0, 0, 0));
        Check.due("a fault", Check.ask(x, "sum", 0, 5, 1), WindowTables.NONE);
        Check.due("no names", x.names(), WindowTables.NONE);
    }
}
