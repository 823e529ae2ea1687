/** The edges that the document names under "Terms" for shapes and what is worked out. */
public final class WorkEdgesTest {
    private static final Check CHECK = new Check();
    private static final String BY_ELEMENT = "+-*<>=&|";

    public static void main(String[] args) {
        sameShape();
        numberAloneWithEach();
        comparedAtTheEdge();
        lesserAndGreater();
        negatives();
        joinedNumbersAndRows();
        noTablesJoined();
        anewByOneOrTwoNumbers();
        anewByNoSuchConstant();
        anewFromTheFirstAgain();
        anewWithTooFew();
        countedUp();
        turned();
        reducedNumberAlone();
        reducedRow();
        reducedTable();
        runsOfRowsAndLines();
        CHECK.end();
    }

    /** a a number alone, b a row of 1, c a table of 1 by 1, d a row of 6, e 2 by 3, f 3 by 2, g 1 by 6, h 6 by 1. */
    private static ArrayText shaped() {
        ArrayText x = new ArrayText();
        int[] shapes = {0, 1, 33, 6, 67, 98, 38, 193};
        for (int v = 0; v < 8; v++) {
            x.shape(v, shapes[v]);
            int many = x.size(v);
            for (int i = 0; i < many; i++) {
                x.set(v, i, i + 1);
            }
        }
        return x;
    }

    private static void due(String text, String want) {
        ArrayText x = shaped();
        CHECK.dueLook(x, text, want.startsWith("throws.") ? want : want.substring(0, want.indexOf(':')));
        CHECK.dueResult(x, text, want);
    }

    private static void sameShape() {
        CHECK.says("x and y must have the same shape, or one of them is a number alone");
        String shapes = "bcdefgh";
        for (char sign : BY_ELEMENT.toCharArray()) {
            for (char x : shapes.toCharArray()) {
                for (char y : shapes.toCharArray()) {
                    CHECK.dueLook(shaped(), "" + x + sign + y, x != y ? Check.SHAPE : shapeOf(x));
                    CHECK.dueRun(shaped(), "" + x + sign + y, 0, x != y ? Check.SHAPE : sizeOf(x));
                }
            }
        }
        due("i2+i3", Check.SHAPE);
        due("i3+i2", Check.SHAPE);
        due("i23+i24", Check.SHAPE);
        due("i3+i3", "3: 0 2 4");
    }

    private static String shapeOf(char name) {
        return String.valueOf(shaped().shapeOf(name - 'a'));
    }

    private static String sizeOf(char name) {
        return String.valueOf(shaped().size(name - 'a'));
    }

    private static void numberAloneWithEach() {
        CHECK.says("which goes with each element of the other");
        due("a+a", "0: 2");
        due("a+b", "1: 2");
        due("b+a", "1: 2");
        due("10-c", "33: 9");
        due("c-10", "33: -9");
        due("10-d", "6: 9 8 7 6 5 4");
        due("d-10", "6: -9 -8 -7 -6 -5 -4");
        due("10-e", "67: 9 8 7 6 5 4");
        due("f-10", "98: -9 -8 -7 -6 -5 -4");
        due("10-24#1", "24:" + " 9".repeat(24));
        due("(24 1#1)-10", "769:" + " -9".repeat(24));
    }

    private static void comparedAtTheEdge() {
        CHECK.says("x < y, x > y, x = y (1 if so, else 0)");
        ArrayText x = new ArrayText();
        Check.fill(x, 0, 3, Math.nextDown(5.0), 5, Math.nextUp(5.0));
        CHECK.dueResult(x, "a<5", "3: 1 0 0");
        CHECK.dueResult(x, "a>5", "3: 0 0 1");
        CHECK.dueResult(x, "a=5", "3: 0 1 0");
        CHECK.dueResult(x, "5<a", "3: 0 0 1");
        CHECK.dueResult(x, "5>a", "3: 1 0 0");
        CHECK.dueResult(x, "5=a", "3: 0 1 0");
        Check.fill(x, 0, 3, -1e12, 0, 1e12);
        CHECK.dueResult(x, "a<-a", "3: 1 0 0");
        CHECK.dueResult(x, "a>-a", "3: 0 0 1");
        CHECK.dueResult(x, "a=-a", "3: 0 1 0");
    }

    private static void lesserAndGreater() {
        CHECK.says("x & y the lesser, x | y the greater of two");
        ArrayText x = new ArrayText();
        Check.fill(x, 0, 3, -2, 5, 1e12);
        CHECK.dueResult(x, "a&5", "3: -2 5 5");
        CHECK.dueResult(x, "a|5", "3: 5 5 1000000000000");
        CHECK.dueResult(x, "5&a", "3: -2 5 5");
        CHECK.dueResult(x, "5|a", "3: 5 5 1000000000000");
        CHECK.dueResult(x, "a&-a", "3: -2 -5 -1000000000000");
        CHECK.dueResult(x, "a|-a", "3: 2 5 1000000000000");
    }

    private static void negatives() {
        CHECK.says("- x: each element's negative.");
        due("-a", "0: -1");
        due("-b", "1: -1");
        due("-d", "6: -1 -2 -3 -4 -5 -6");
        due("-e", "67: -1 -2 -3 -4 -5 -6");
        due("--d", "6: 1 2 3 4 5 6");
        due("-0", "0: 0");
        due("0=-0", "0: 1");
    }

    private static void joinedNumbersAndRows() {
        CHECK.says("x , y JOINS: numbers alone and rows, not tables: a row of x's elements and then y's.");
        due("a,9", "2: 1 9");
        due("a,b", "2: 1 1");
        due("9,d", "7: 9 1 2 3 4 5 6");
        due("d,9", "7: 1 2 3 4 5 6 9");
        due("d,i3", "9: 1 2 3 4 5 6 0 1 2");
        due("(23#1),2", "24:" + " 1".repeat(23) + " 2");
        due("(24#1),2", Check.SIZE);
        due("2,23#1", "24: 2" + " 1".repeat(23));
        due("2,24#1", Check.SIZE);
        due("(24#1),24#1", Check.SIZE);
    }

    private static void noTablesJoined() {
        CHECK.says("a table joined");
        for (char table : "cefgh".toCharArray()) {
            for (char other : "abcdefgh".toCharArray()) {
                due(table + "," + other, Check.SHAPE);
                due(other + "," + table, Check.SHAPE);
            }
        }
    }

    private static void anewByOneOrTwoNumbers() {
        CHECK.says("x must be a constant (parentheses around it mean nothing) of one number (a row of so many) or two"
                + " (a table of lines and elements)");
        due("1#a", "1: 1");
        due("6#d", "6: 1 2 3 4 5 6");
        due("6#e", "6: 1 2 3 4 5 6");
        due("1 1#a", "33: 1");
        due("1 6#d", "38: 1 2 3 4 5 6");
        due("6 1#d", "193: 1 2 3 4 5 6");
        due("3 2#e", "98: 1 2 3 4 5 6");
        due("(6)#d", "6: 1 2 3 4 5 6");
        due("((3 2))#d", "98: 1 2 3 4 5 6");
        due("0006#d", "6: 1 2 3 4 5 6");
        due("2 3 1#d", Check.SHAPE);
        due("(2 3 1)#d", Check.SHAPE);
        due("1 1 1#a", Check.SHAPE);
        due("1 1 1 1 1 1 1 1 1 1 1 1 1 1 1 1 1 1#a", Check.SHAPE);
    }

    private static void anewByNoSuchConstant() {
        CHECK.says("or x is not such a constant");
        for (String measure : new String[] {"a", "(a)", "b", "c", "d", "i1", "i2", "(i2)", "(-6)", "(~6)", "(/+6)",
            "(\\+6)", "(6+0)", "(2,3)", "(2 3+0)", "(1#6)", "(2#3)", "(-2 3)", "(/+2 3)"}) {
            due(measure + "#a", Check.SHAPE);
        }
    }

    private static void anewFromTheFirstAgain() {
        CHECK.says("its elements are y's in order, from the first again when they are used up");
        due("5#1 2", "5: 1 2 1 2 1");
        due("4#1 2", "4: 1 2 1 2");
        due("3#1 2", "3: 1 2 1");
        due("2#1 2", "2: 1 2");
        due("24#d", "24:" + " 1 2 3 4 5 6".repeat(4));
        due("7#e", "7: 1 2 3 4 5 6 1");
        due("2 4#f", "68: 1 2 3 4 5 6 1 2");
        due("24#i23", "24: 0 1 2 3 4 5 6 7 8 9 10 11 12 13 14 15 16 17 18 19 20 21 22 0");
        due("3#a", "3: 1 1 1");
    }

    private static void anewWithTooFew() {
        CHECK.says("it must have at least as many elements as y");
        for (int from = 1; from <= 24; from++) {
            for (int many = 1; many <= 24; many++) {
                String want = many < from ? Check.SHAPE : String.valueOf(many);
                CHECK.dueLook(new ArrayText(), many + "#i" + from, want);
                CHECK.dueRun(new ArrayText(), many + "#i" + from, 0, want);
            }
        }
        due("5#e", Check.SHAPE);
        due("6#f", "6: 1 2 3 4 5 6");
        due("1 5#d", Check.SHAPE);
        due("5 1#d", Check.SHAPE);
        due("2 2#e", Check.SHAPE);
        due("4 2#e", "130: 1 2 3 4 5 6 1 2");
        due("1#c", "1: 1");
    }

    private static void countedUp() {
        CHECK.says("i n is the row 0, 1, .., n - 1.");
        StringBuilder row = new StringBuilder();
        for (int many = 1; many <= 24; many++) {
            row.append(' ').append(many - 1);
            due("i" + many, many + ":" + row);
            ArrayText x = shaped();
            Check.become(x, many + "#9-i" + many);
            Check.run(x, 1);
            CHECK.dueResult(x, "i" + many, many + ":" + row);
            Check.become(x, "24#99");
            Check.run(x, 1);
            CHECK.dueResult(x, "i" + many, many + ":" + row);
        }
    }

    private static void turned() {
        CHECK.says("element j of line i of a table becomes element i of line j; others stay.");
        due("~a", "0: 1");
        due("~b", "1: 1");
        due("~d", "6: 1 2 3 4 5 6");
        due("~c", "33: 1");
        due("~g", "193: 1 2 3 4 5 6");
        due("~h", "38: 1 2 3 4 5 6");
        due("~e", "98: 1 4 2 5 3 6");
        due("~f", "67: 1 3 5 2 4 6");
        due("~1 24#7", "769:" + " 7".repeat(24));
        due("~24 1#7", "56:" + " 7".repeat(24));
        due("~2 2#i4", "66: 0 2 1 3");
        due("~4 6#i24", "196: 0 6 12 18 1 7 13 19 2 8 14 20 3 9 15 21 4 10 16 22 5 11 17 23");
    }

    private static void reducedNumberAlone() {
        CHECK.says("/ and a sign, x REDUCES: a number alone stays");
        for (char sign : "+*&|".toCharArray()) {
            due("/" + sign + "7", "0: 7");
            due("/" + sign + "-a", "0: -1");
            due("\\" + sign + "7", "0: 7");
        }
    }

    private static void reducedRow() {
        CHECK.says("a row becomes the number alone that comes of its first element, that and the second by the sign");
        due("/+b", "0: 1");
        due("/*i1", "0: 0");
        due("/&b", "0: 1");
        due("/|b", "0: 1");
        due("/+3 4", "0: 7");
        due("/*3 4", "0: 12");
        due("/&4 3", "0: 3");
        due("/|3 4", "0: 4");
        due("/+i24", "0: 276");
        due("/*24#1", "0: 1");
        due("/|i24", "0: 23");
        due("/&9-i9", "0: 1");
        // One at a time the small ones are lost in the large one; added up first, they would not be.
        ArrayText x = new ArrayText();
        Check.fill(x, 0, 4, -1e12, 0.00004, 0.00004, 0.00004);
        CHECK.dueRun(x, "/+a", 1, "1");
        CHECK.due("at(1, 0)", x.at(1, 0), ((-1e12 + 0.00004) + 0.00004) + 0.00004);
    }

    private static void reducedTable() {
        CHECK.says("a table becomes the row of its lines' reductions");
        due("/+c", "1: 1");
        due("/+e", "2: 6 15");
        due("/*f", "3: 2 12 30");
        due("/&e", "2: 1 4");
        due("/|f", "3: 2 4 6");
        due("/+g", "1: 21");
        due("/+h", "6: 1 2 3 4 5 6");
        due("/*24 1#i24", "24: 0 1 2 3 4 5 6 7 8 9 10 11 12 13 14 15 16 17 18 19 20 21 22 23");
        due("/+1 24#1", "1: 24");
    }

    private static void runsOfRowsAndLines() {
        CHECK.says("\\ and a sign, x RUNS: the same shape; element k of a row or of a line is the reduction of its"
                + " elements 0 .. k.");
        due("\\+b", "1: 1");
        due("\\+c", "33: 1");
        due("\\+d", "6: 1 3 6 10 15 21");
        due("\\*d", "6: 1 2 6 24 120 720");
        due("\\&3 4 2", "3: 3 3 2");
        due("\\|3 2 4", "3: 3 3 4");
        due("\\+e", "67: 1 3 6 4 9 15");
        due("\\*f", "98: 1 2 3 12 5 30");
        due("\\+g", "38: 1 3 6 10 15 21");
        due("\\+h", "193: 1 2 3 4 5 6");
        due("\\|24#2", "24:" + " 2".repeat(24));
    }
}
