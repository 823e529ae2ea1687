/** The edges that the document names under "Terms" for the text, and for what is an expression in it. */
public final class TextEdgesTest {
    private static final Check CHECK = new Check();
    private static final String SIGNS = "+-*<>=&|,#";
    private static final String FOLDING_SIGNS = "+*&|";

    public static void main(String[] args) {
        codes();
        fortyCharacters();
        oneCharacter();
        behindAPart();
        betweenParts();
        fronts();
        foldingFronts();
        digits();
        digitsOfEachNumber();
        digitsBehindI();
        spacesInConstants();
        numbersInConstants();
        otherSpaces();
        oneOrSeveral();
        parentheses();
        whatBelongsToASign();
        whatBelongsToAFront();
        deepTexts();
        CHECK.end();
    }

    private static String name(int code) {
        return code > 32 && code < 127 ? String.valueOf((char) code) : "code " + code;
    }

    /** Whether the text is an expression, on an object whose variables all hold the number 0. */
    private static void dueExpression(String text, boolean want) {
        ArrayText x = new ArrayText();
        Check.become(x, text);
        CHECK.due("look() of " + text + " throws for TEXT", Check.look(x).equals(Check.TEXT), !want);
        CHECK.due("run(0) of " + text + " throws for TEXT", Check.run(x, 0).equals(Check.TEXT), !want);
    }

    private static void codes() {
        CHECK.says("THE TEXT is a row of characters with codes 1 .. 127");
        for (int code = 1; code <= 255; code++) {
            ArrayText x = new ArrayText();
            CHECK.due("write of " + name(code), x.write(code), code <= 127 ? 1 : -1);
            CHECK.due("erase() then", x.erase(), code <= 127 ? 1 : 0);
        }
        CHECK.due("write of 0", new ArrayText().write(0), 0);
    }

    private static void fortyCharacters() {
        CHECK.says("at most 40");
        dueExpression("1234+".repeat(7) + "(12)1", false);
        dueExpression("1234+".repeat(7) + "(123)", true);
        ArrayText x = new ArrayText();
        Check.become(x, "1+".repeat(19) + "12");
        CHECK.due("write of a 41st character", x.write('3'), -1);
        CHECK.due("run(0) of 40 characters", Check.run(x, 0), "1");
        CHECK.due("at(0, 0)", x.at(0, 0), 31.0);
        CHECK.due("erase()", x.erase(), 40);
    }

    private static void oneCharacter() {
        CHECK.says("part = a name a to h, or a constant");
        for (char c = 1; c <= 127; c++) {
            dueExpression(String.valueOf(c), c >= 'a' && c <= 'h' || c >= '0' && c <= '9');
        }
        dueExpression("", false);
    }

    private static void behindAPart() {
        CHECK.says("expression = part, or part sign expression");
        for (char c = 1; c <= 127; c++) {
            boolean isDigit = c >= '0' && c <= '9';
            dueExpression("a" + c, false);
            dueExpression("(a)" + c, false);
            dueExpression("1" + c, isDigit);
            dueExpression("i1" + c, isDigit);
            dueExpression("(a" + c, c == ')');
        }
    }

    private static void betweenParts() {
        CHECK.says("sign = + - * < > = & | , or #.");
        for (char c = 1; c <= 127; c++) {
            boolean isSign = SIGNS.indexOf(c) >= 0;
            dueExpression("a" + c + "b", isSign);
            dueExpression("(a)" + c + "(b)", isSign);
            dueExpression("1" + c + "a", isSign);
            dueExpression("i2" + c + "a", isSign);
            dueExpression("a" + c + c + "b", c == '-');
            dueExpression("1" + c + "1", isSign || c == ' ' || c >= '0' && c <= '9');
        }
    }

    private static void fronts() {
        CHECK.says("front = - or ~, or / or \\ with one of + * & | behind it.");
        for (char c = 1; c <= 127; c++) {
            dueExpression(c + "a", c == '-' || c == '~');
            dueExpression(c + "(a)", c == '-' || c == '~');
            dueExpression("a+" + c + "a", c == '-' || c == '~');
        }
    }

    private static void foldingFronts() {
        CHECK.says("front = - or ~, or / or \\ with one of + * & | behind it.");
        for (char c = 1; c <= 127; c++) {
            boolean folds = FOLDING_SIGNS.indexOf(c) >= 0;
            dueExpression("/" + c + "a", folds);
            dueExpression("\\" + c + "a", folds);
            dueExpression("1-/" + c + "a", folds);
            dueExpression("/" + c, false);
            dueExpression("\\" + c, false);
        }
        dueExpression("/", false);
        dueExpression("\\", false);
        dueExpression("-", false);
        dueExpression("~", false);
    }

    private static void digits() {
        CHECK.says("a number (1 to 4 digits)");
        ArrayText x = new ArrayText();
        CHECK.dueResult(x, "0", "0: 0");
        CHECK.dueResult(x, "9", "0: 9");
        CHECK.dueResult(x, "10", "0: 10");
        CHECK.dueResult(x, "999", "0: 999");
        CHECK.dueResult(x, "1000", "0: 1000");
        CHECK.dueResult(x, "9999", "0: 9999");
        CHECK.dueResult(x, "0000", "0: 0");
        CHECK.dueResult(x, "0001", "0: 1");
        CHECK.dueResult(x, "10000", Check.TEXT);
        CHECK.dueResult(x, "00000", Check.TEXT);
        CHECK.dueResult(x, "00001", Check.TEXT);
        CHECK.dueResult(x, "12345678", Check.TEXT);
        CHECK.dueResult(x, "a+99999", Check.TEXT);
        CHECK.dueResult(x, "99999+a", Check.TEXT);
        CHECK.dueResult(x, "(99999)", Check.TEXT);
    }

    private static void digitsOfEachNumber() {
        CHECK.says("a number (1 to 4 digits), or several numbers");
        ArrayText x = new ArrayText();
        CHECK.dueResult(x, "9999 0000 9999", "3: 9999 0 9999");
        CHECK.dueResult(x, "99999 0 9999", Check.TEXT);
        CHECK.dueResult(x, "9999 00000 9999", Check.TEXT);
        CHECK.dueResult(x, "9999 0 99999", Check.TEXT);
        CHECK.dueResult(x, "1 ", Check.TEXT);
        CHECK.dueResult(x, "1 2 ", Check.TEXT);
        CHECK.dueResult(x, "1 +2", Check.TEXT);
        CHECK.dueResult(x, "00001 2#a", Check.TEXT);
    }

    private static void digitsBehindI() {
        CHECK.says("i with a number behind it");
        ArrayText x = new ArrayText();
        CHECK.dueResult(x, "i1", "1: 0");
        CHECK.dueResult(x, "i02", "2: 0 1");
        CHECK.dueResult(x, "i0003", "3: 0 1 2");
        CHECK.dueLook(x, "i9999", Check.SIZE);
        for (String text : new String[] {"i", "i+1", "(i)", "ii", "ia", "i(1)", "i 1", "i-1", "i00001", "i10000",
            "i1 2", "1 i2", "i1i1", "1i1", "ai1", "I1"}) {
            CHECK.dueLook(x, text, Check.TEXT);
        }
        for (char c = 1; c <= 127; c++) {
            dueExpression(c + "3", c == 'i' || c == '-' || c == '~' || c >= '0' && c <= '9');
            dueExpression("i" + c, c >= '0' && c <= '9');
        }
    }

    private static void spacesInConstants() {
        CHECK.says("with one space between each two and the next");
        ArrayText x = new ArrayText();
        CHECK.dueResult(x, "12", "0: 12");
        CHECK.dueResult(x, "1 2", "2: 1 2");
        CHECK.dueResult(x, "1  2", Check.TEXT);
        CHECK.dueResult(x, "1   2", Check.TEXT);
        CHECK.dueResult(x, "1 2 3", "3: 1 2 3");
        CHECK.dueResult(x, "1 2  3", Check.TEXT);
        CHECK.dueResult(x, "1\t2", Check.TEXT);
    }

    /** 24 numbers need 47 characters, so that a text has no room for more than 20. */
    private static void numbersInConstants() {
        CHECK.says("several numbers, at most 24");
        for (int many = 2; many <= 20; many++) {
            String numbers = "7 ".repeat(many - 1) + "8";
            CHECK.dueResult(new ArrayText(), numbers, many + ":" + " 7".repeat(many - 1) + " 8");
        }
        CHECK.dueResult(new ArrayText(), "7 ".repeat(19) + "89", "20:" + " 7".repeat(19) + " 89");
        CHECK.dueResult(new ArrayText(), "7 ".repeat(20), Check.TEXT);
    }

    private static void otherSpaces() {
        CHECK.says("No other spaces stand in it.");
        String[] whole = {"a", "a+b", "-a", "/+a", "\\*a", "(a)", "i3", "2 3#a", "~(a,1)", "1 2-3"};
        for (String text : whole) {
            dueExpression(text, true);
            for (int k = 0; k <= text.length(); k++) {
                dueExpression(text.substring(0, k) + " " + text.substring(k), false);
            }
        }
        dueExpression(" ", false);
    }

    private static void oneOrSeveral() {
        CHECK.says("one number is a number alone, several are a row");
        ArrayText x = new ArrayText();
        CHECK.dueLook(x, "7", "0");
        CHECK.dueLook(x, "(7)", "0");
        CHECK.dueLook(x, "7 7", "2");
        CHECK.dueLook(x, "7+1 2 3", "3");
        CHECK.dueLook(x, "7 7+1 2 3", Check.SHAPE);
    }

    private static void parentheses() {
        CHECK.says("or ( expression ).");
        for (String text : new String[] {"(a)", "((a))", "(a)+(b)", "(-a)", "(/+a)", "-(a)", "(a+b)", "(1 2)",
            "(i3)", "((a)+(b))"}) {
            dueExpression(text, true);
        }
        for (String text : new String[] {"()", "(", ")", "(a", "a)", "((a)", "(a))", ")a(", "(a)b", "a(b)", "(a)(b)",
            "()a", "a()", "(+)", "(a+)", "(+a)", "(-)", "(/)+a", "(1 2) 3", "1 (2)", "(a]", "[a)", "{a}", "i(3)"}) {
            dueExpression(text, false);
        }
        for (char c = 1; c <= 127; c++) {
            dueExpression(c + "a)", c == '(');
            dueExpression("(a" + c + "+b", c == ')');
        }
    }

    private static void whatBelongsToASign() {
        CHECK.says("(So all that stands right of a sign or front, up to the end or the closing parenthesis,"
                + " belongs to it.)");
        ArrayText x = new ArrayText();
        CHECK.dueResult(x, "9-5-1", "0: 5");
        CHECK.dueResult(x, "(9-5)-1", "0: 3");
        CHECK.dueResult(x, "9-(5)-1", "0: 5");
        CHECK.dueResult(x, "(9-5-1)-1", "0: 4");
        CHECK.dueResult(x, "2*3+4", "0: 14");
        CHECK.dueResult(x, "3=3+1", "0: 0");
        CHECK.dueResult(x, "1,2*3", "2: 1 6");
        CHECK.dueResult(x, "1 2*3,4", "2: 3 8");
        CHECK.dueResult(x, "4#1,2", "4: 1 2 1 2");
        CHECK.dueResult(x, "(4#1),2", "5: 1 1 1 1 2");
    }

    private static void whatBelongsToAFront() {
        CHECK.says("(So all that stands right of a sign or front, up to the end or the closing parenthesis,"
                + " belongs to it.)");
        ArrayText x = new ArrayText();
        CHECK.dueResult(x, "-2+3", "0: -5");
        CHECK.dueResult(x, "(-2)+3", "0: 1");
        CHECK.dueResult(x, "(-2+3)+3", "0: -2");
        CHECK.dueResult(x, "/+1 2,3", "0: 6");
        CHECK.dueResult(x, "(/+1 2),3", "2: 3 3");
        CHECK.dueResult(x, "\\+1 2,3", "3: 1 3 6");
        CHECK.dueResult(x, "(\\+1 2),3", "3: 1 3 3");
        CHECK.dueResult(x, "~1 2#3 4", "65: 3 4");
        CHECK.dueResult(x, "4 5*~2#6", "2: 24 30");
        CHECK.dueResult(x, "9-/+1 2-1", "0: 8");
    }

    private static void deepTexts() {
        CHECK.says("expression = part, or part sign expression, or front expression.");
        dueExpression("-".repeat(39) + "a", true);
        dueExpression("-".repeat(40), false);
        dueExpression("a-".repeat(19) + "a", true);
        dueExpression("a-".repeat(19) + "-a", true);
        dueExpression("a-".repeat(20), false);
        dueExpression("/+".repeat(19) + "-a", true);
        dueExpression("\\|".repeat(20), false);
        dueExpression("(".repeat(19) + "a" + ")".repeat(19), true);
        dueExpression("(".repeat(19) + "-a" + ")".repeat(19), true);
        dueExpression("(".repeat(19) + "a" + ")".repeat(20), false);
        dueExpression("(".repeat(20) + "a" + ")".repeat(19), false);
        dueExpression("(".repeat(40), false);
        dueExpression(")".repeat(40), false);
    }
}
