/** Promises 10 and 11, the text: what is an expression, and what belongs to which sign. */
public final class GrammarTest {
    private static final Check CHECK = new Check();
    private static final String WRONG = "throws.IllegalArgumentException";

    public static void main(String[] args) {
        noExpressions();
        constants();
        rightToLeft();
        parentheses();
        longTexts();
        textComesFirst();
        CHECK.end();
    }

    private static void noExpressions() {
        for (String text : new String[] {"", " ", "+", "a+", "+a", "*a", "<a", ",a", "#a", "ab", "a b", "a +b",
            "a+ b", " a", "a ", "1 ", " 1", "1  2", "1 2 ", "1 a", "1 -2", "12345", "1 12345", "00001", "i", "ia",
            "i 3", "i3 4", "i12345", "ii3", "3i3", "3a", "a3", "j", "A", "z", "()", "(a", "a)", "(a))", "((a)",
            ")a(", "(ab", "(a(", "(a+b]", "(1 2,", "(a)b", "(a)(b)", "(1) 2", "1 (2)", "a~b", "a~", "~",
            "-", "--", "/a", "/", "/+", "\\+", "\\a",
            "/-a", "/<a", "/=a", "/,a", "/#a", "/~a", "\\-a", "\\>a", "\\\\+a", "//+a", "a/+b", "a\\+b", "/ +a",
            "/+ a", "a++b", "a+*b", "1.5", "1,", "a,,b", "2##a", "a==b", "a%b", "a!b", "a\tb", "a\n", "1\u00012",
            "a\u007f", "i(3)", "i-3", "(/+)a", "a^b", "[a]", "x", "a;b", "a:b", "`", "a/b", "a@", "a?b", "1e3"}) {
            ArrayText x = new ArrayText();
            String before = Check.state(x);
            CHECK.dueLook(x, text, WRONG);
            CHECK.dueRun(x, text, 0, WRONG);
            CHECK.due("state after " + text, Check.state(x), before);
        }
    }

    private static void constants() {
        ArrayText x = new ArrayText();
        CHECK.dueResult(x, "0", "0: 0");
        CHECK.dueResult(x, "9999", "0: 9999");
        CHECK.dueResult(x, "0012", "0: 12");
        CHECK.dueResult(x, "1 2", "2: 1 2");
        CHECK.dueResult(x, "9999 0 0305 7", "4: 9999 0 305 7");
        CHECK.dueResult(x, "1 2 3 4 5 6 7 8 9 0 1 2 3 4 5 6 7 8 9 0",
                "20: 1 2 3 4 5 6 7 8 9 0 1 2 3 4 5 6 7 8 9 0");
        CHECK.dueResult(x, "i1", "1: 0");
        CHECK.dueResult(x, "i0004", "4: 0 1 2 3");
        CHECK.dueResult(x, "i24", "24: 0 1 2 3 4 5 6 7 8 9 10 11 12 13 14 15 16 17 18 19 20 21 22 23");
    }

    private static void rightToLeft() {
        ArrayText x = new ArrayText();
        for (int v = 0; v < 7; v++) {
            x.put(v, v + 2);
        }
        CHECK.dueResult(x, "a-b-c", "0: 3");
        CHECK.dueResult(x, "a*b+c", "0: 14");
        CHECK.dueResult(x, "a+b*c", "0: 14");
        CHECK.dueResult(x, "g-f-e-d-c-b-a", "0: 5");
        CHECK.dueResult(x, "-a+b", "0: -5");
        CHECK.dueResult(x, "-5-3", "0: -2");
        CHECK.dueResult(x, "a--b", "0: 5");
        CHECK.dueResult(x, "a---b", "0: -1");
        CHECK.dueResult(x, "--a", "0: 2");
        CHECK.dueResult(x, "a+~b*c", "0: 14");
        CHECK.dueResult(x, "1 2 3-1", "3: 0 1 2");
        CHECK.dueResult(x, "1-1 2 3", "3: 0 -1 -2");
        CHECK.dueResult(x, "/+1 2 3*2", "0: 12");
        CHECK.dueResult(x, "2*/+1 2 3,4", "0: 20");
        CHECK.dueResult(x, "1 2+/*3 4", "2: 13 14");
        CHECK.dueResult(x, "1,2+3", "2: 1 5");
        CHECK.dueResult(x, "1+2,3", "2: 3 4");
        CHECK.dueResult(x, "3#1,2", "3: 1 2 1");
        CHECK.dueResult(x, "a<b=c>d", "0: 0");
        CHECK.dueResult(x, "/+\\+i4", "0: 10");
        CHECK.dueResult(x, "a,b,c,d,e,f,g", "7: 2 3 4 5 6 7 8");
    }

    private static void parentheses() {
        ArrayText x = new ArrayText();
        CHECK.dueResult(x, "(9-4)-3", "0: 2");
        CHECK.dueResult(x, "9-(4-3)", "0: 8");
        CHECK.dueResult(x, "(-5)-3", "0: -8");
        CHECK.dueResult(x, "(((7)))", "0: 7");
        CHECK.dueResult(x, "(1 2),(3 4)", "4: 1 2 3 4");
        CHECK.dueResult(x, "(/+1 2 3)*2", "0: 12");
        CHECK.dueResult(x, "-(1-(2-(3-(4-5))))", "0: -3");
        CHECK.dueResult(x, "((1+2)*(3+4))-(5)", "0: 16");
    }

    private static void longTexts() {
        ArrayText x = new ArrayText();
        x.put(0, 3);
        CHECK.dueResult(x, "-".repeat(39) + "a", "0: -3");
        CHECK.dueResult(x, "~".repeat(39) + "a", "0: 3");
        CHECK.due("made() by 39 turns", x.made(), 39);
        CHECK.dueResult(x, "(".repeat(19) + "42" + ")".repeat(19), "0: 42");
        CHECK.dueResult(x, "(".repeat(19) + "a" + ")".repeat(19), "0: 3");
        CHECK.dueResult(x, "a+".repeat(19) + "a", "0: 60");
        CHECK.dueResult(x, "a+".repeat(19) + "-a", "0: 54");
        CHECK.dueResult(x, "/+".repeat(19) + "a", "0: 3");
        CHECK.dueResult(x, "(-".repeat(13) + "a" + ")".repeat(13), "0: -3");
        CHECK.dueResult(x, "-(".repeat(13) + "a" + ")".repeat(13), "0: -3");
        for (String text : new String[] {"(".repeat(40), ")".repeat(40), "-".repeat(40), "a+".repeat(20),
            "a".repeat(40), "1 ".repeat(20), "/+".repeat(20), "i".repeat(40), "(".repeat(20) + ")".repeat(20),
            "(".repeat(20) + "a" + ")".repeat(19), "0".repeat(40), "(-".repeat(20), "a,(".repeat(13)}) {
            CHECK.dueLook(x, text, WRONG);
            CHECK.dueRun(x, text, 1, WRONG);
        }
    }

    private static void textComesFirst() {
        ArrayText x = new ArrayText();
        CHECK.dueRun(x, "i0,", 0, WRONG);
        CHECK.dueRun(x, "(1 2+1 2 3", 0, WRONG);
        CHECK.dueRun(x, "i25+12345", 0, WRONG);
        CHECK.dueRun(x, "(9999*9999*9999*9999)x", 0, WRONG);
        CHECK.dueRun(x, "a+", 8, "throws.IndexOutOfBoundsException");
        CHECK.dueRun(x, "a", -1, "throws.IndexOutOfBoundsException");
        CHECK.dueRun(x, "i0", Integer.MAX_VALUE, "throws.IndexOutOfBoundsException");
        CHECK.dueRun(x, "1 2+1 2 3", Integer.MIN_VALUE, "throws.IndexOutOfBoundsException");
    }
}
