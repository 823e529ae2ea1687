/** Promises 10 and 11, the shapes: what fits, and which of SHAPE and SIZE is found first. */
public final class ShapesTest {
    private static final Check CHECK = new Check();
    private static final String SHAPE = "throws.IllegalStateException";
    private static final String SIZE = "throws.UnsupportedOperationException";

    public static void main(String[] args) {
        byElement();
        joins();
        anew();
        countsTurnsAndFolds();
        faultsInOrder();
        faultsChangeNothing();
        lookGoesByTheVariables();
        CHECK.end();
    }

    /** a a number alone, b a row of 1, c of 3, d of 24, e a table of 1 by 3, f 3 by 1, g 2 by 3, h 3 by 2. */
    private static ArrayText shaped() {
        ArrayText x = new ArrayText();
        int[] shapes = {0, 1, 3, 24, 35, 97, 67, 98};
        for (int v = 0; v < 8; v++) {
            x.shape(v, shapes[v]);
        }
        return x;
    }

    /** What look answers or throws, run throws too. */
    private static void due(String text, String want) {
        ArrayText x = shaped();
        CHECK.dueLook(x, text, want);
        String ran = Check.run(x, 0);
        if (want.startsWith("throws.")) {
            CHECK.due("run(0) of " + text, ran, want);
        } else {
            CHECK.due("run(0) of " + text, ran, String.valueOf(x.size(0)));
            CHECK.due("shapeOf(0) after " + text, String.valueOf(x.shapeOf(0)), want);
        }
    }

    private static void byElement() {
        int[] shapes = {0, 1, 3, 24, 35, 97, 67, 98};
        for (char sign : "+-*<>=&|".toCharArray()) {
            for (int v = 0; v < 8; v++) {
                for (int w = 0; w < 8; w++) {
                    String text = "" + (char) ('a' + v) + sign + (char) ('a' + w);
                    boolean fits = v == w || v == 0 || w == 0;
                    due(text, fits ? String.valueOf(shapes[v == 0 ? w : v]) : SHAPE);
                }
            }
        }
        due("-a", "0");
        due("-d", "24");
        due("-g", "67");
    }

    private static void joins() {
        due("a,a", "2");
        due("a,b", "2");
        due("b,b", "2");
        due("c,a", "4");
        due("i12,i12", "24");
        due("i12,i13", SIZE);
        due("d,a", SIZE);
        due("a,d", SIZE);
        due("d,d", SIZE);
        due("g,a", SHAPE);
        due("a,g", SHAPE);
        due("e,c", SHAPE);
        due("g,g", SHAPE);
        due("d,g", SHAPE);
        due("g,d", SHAPE);
    }

    private static void anew() {
        due("1#a", "1");
        due("24#a", "24");
        due("25#a", SIZE);
        due("0#a", SIZE);
        due("9999#a", SIZE);
        due("3#c", "3");
        due("2#c", SHAPE);
        due("4#c", "4");
        due("0#c", SIZE);
        due("1 1#a", "33");
        due("2 3#g", "67");
        due("3 2#g", "98");
        due("6#g", "6");
        due("2 2#g", SHAPE);
        due("1 24#a", "56");
        due("24 1#d", "769");
        due("4 6#d", "134");
        due("0 5#a", SIZE);
        due("5 0#a", SIZE);
        due("0 0#a", SIZE);
        due("5 5#a", SIZE);
        due("25 1#a", SIZE);
        due("1 25#a", SIZE);
        due("9999 9999#a", SIZE);
        due("0 3#d", SIZE);
        due("(2 3)#a", "67");
        due("(((7)))#a", "7");
        due("1 2 3#a", SHAPE);
        due("(1 2 3)#a", SHAPE);
        due("a#a", SHAPE);
        due("(a)#a", SHAPE);
        due("i2#a", SHAPE);
        due("i1#a", SHAPE);
        due("(-3)#a", SHAPE);
        due("(~3)#a", SHAPE);
        due("(1+2)#a", SHAPE);
        due("(2,3)#a", SHAPE);
        due("(1#3)#a", SHAPE);
        due("(0+0)#d", SHAPE);
        due("0 0 0#d", SHAPE);
        due("2#3#a", SHAPE);
        due("4#3#a", "4");
    }

    private static void countsTurnsAndFolds() {
        due("i1", "1");
        due("i24", "24");
        due("i25", SIZE);
        due("i0", SIZE);
        due("i0000", SIZE);
        due("i9999", SIZE);
        due("~a", "0");
        due("~b", "1");
        due("~c", "3");
        due("~e", "97");
        due("~g", "98");
        due("~~g", "67");
        for (char sign : "+*&|".toCharArray()) {
            due("/" + sign + "a", "0");
            due("/" + sign + "b", "0");
            due("/" + sign + "d", "0");
            due("/" + sign + "e", "1");
            due("/" + sign + "f", "3");
            due("/" + sign + "g", "2");
            due("/" + sign + "/" + sign + "g", "0");
            due("\\" + sign + "a", "0");
            due("\\" + sign + "b", "1");
            due("\\" + sign + "d", "24");
            due("\\" + sign + "g", "67");
        }
    }

    private static void faultsInOrder() {
        due("(b+c)+i0", SIZE);
        due("i0+b+c", SHAPE);
        due("(i0)+(b+c)", SHAPE);
        due("(b+c),i25", SIZE);
        due("i25,b+c", SHAPE);
        due("g,i0", SIZE);
        due("g+h,i12", SHAPE);
        due("(i0)#g,g", SHAPE);
        due("(i0)#a", SIZE);
        due("(b+c)#i0", SIZE);
        due("(b+c)#a", SHAPE);
        due("(i0)#b+c", SHAPE);
        due("i0#g", SIZE);
        due("1 2 3#i0", SIZE);
        due("1 2 3#d,d", SIZE);
        due("0#b+c", SHAPE);
        due("0#g,h", SHAPE);
        due("b+c+i0", SIZE);
        due("-~/+\\*i0", SIZE);
        due("-~/+\\*b+c", SHAPE);
        due("((i0)+b+c)+a", SHAPE);
        due("(b+c+i0)+a", SIZE);
        due("(b+c)+(i0)+a", SIZE);
        due("(i0)+(b+c)+a", SHAPE);
        due("(d,d)+(b+c)", SHAPE);
        due("(b+c)+(d,d)", SIZE);
        due("((b+c)+a)+(a+(a,d))", SIZE);
    }

    private static void faultsChangeNothing() {
        for (String text : new String[] {"b+c", "i0", "d,d", "g,a", "2#c", "a#a", "25#a", "1 2 3#a"}) {
            ArrayText x = shaped();
            Check.fill(x, 2, 3, 5, 6, 7);
            CHECK.dueRun(x, "/+c", 0, "1");
            CHECK.dueRun(x, "(~a),~a", 1, "2");
            Check.fill(x, 1, 1, 4);
            String before = Check.state(x);
            Check.become(x, text);
            for (int v = 0; v < 8; v++) {
                Check.run(x, v);
            }
            Check.look(x);
            CHECK.due("state after " + text, Check.state(x), before);
            CHECK.due("erase() after " + text, x.erase(), text.length());
        }
    }

    private static void lookGoesByTheVariables() {
        ArrayText x = new ArrayText();
        Check.become(x, "a+b");
        CHECK.due("look()", Check.look(x), "0");
        x.shape(0, 5);
        CHECK.due("look() with a row", Check.look(x), "5");
        x.shape(1, 67);
        CHECK.due("look() with a row and a table", Check.look(x), SHAPE);
        x.put(0, 1e12);
        CHECK.due("look() with a table", Check.look(x), "67");
        x.set(1, 3, 1e12);
        CHECK.due("look() with elements that are out of range", Check.look(x), "67");
        CHECK.due("run(2) with elements that are out of range", Check.run(x, 2), "throws.ArithmeticException");
        CHECK.due("runs() after looks", x.runs(), 0);
        CHECK.due("made() after looks", x.made(), 0);
    }
}
