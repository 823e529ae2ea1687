/** The edges that promises 10 to 13 name: run, look, made and runs, and the arrays that a run makes. */
public final class RunEdgesTest {
    private static final Check CHECK = new Check();
    private static final int[] NO_VARIABLES = {-1, 8, -2, 9, Integer.MIN_VALUE, Integer.MAX_VALUE};

    public static void main(String[] args) {
        runAnswersHowMany();
        textStays();
        everyVariableTakesTheResult();
        resultFromItself();
        noSuchVariable();
        indexBeforeAll();
        throwsInOrder();
        indexChangesNothing();
        textChangesNothing();
        shapeChangesNothing();
        sizeChangesNothing();
        rangeChangesNothing();
        textIsThereAfterAThrow();
        lookTellsTheShape();
        lookThrows();
        lookThrowsNothingForRange();
        lookChangesNothing();
        arraysOfEachKind();
        oneMoreIfTheWholeIsNone();
        parenthesesMakeNone();
        madeOfTheLatest();
        madeOfNone();
        runsOfGoodOnes();
        CHECK.end();
    }

    private static void runAnswersHowMany() {
        CHECK.says("variable v becomes the result: how many elements it has.");
        ArrayText x = new ArrayText();
        CHECK.dueRun(x, "5", 0, "1");
        CHECK.due("shapeOf(0)", x.shapeOf(0), 0);
        CHECK.dueRun(x, "i1", 0, "1");
        CHECK.due("shapeOf(0)", x.shapeOf(0), 1);
        CHECK.dueRun(x, "1 1#5", 0, "1");
        CHECK.due("shapeOf(0)", x.shapeOf(0), 33);
        CHECK.dueRun(x, "i24", 0, "24");
        CHECK.dueRun(x, "1 24#5", 0, "24");
        CHECK.dueRun(x, "24 1#5", 0, "24");
        CHECK.due("shapeOf(0)", x.shapeOf(0), 769);
        CHECK.dueRun(x, "2 3#5", 0, "6");
        CHECK.due("shapeOf(0)", x.shapeOf(0), 67);
        CHECK.dueRun(x, "7", 0, "1");
        CHECK.due("variable 0 after a long one", Check.array(x, 0), "0: 7");
        CHECK.due("at(0, 1) after a long one", x.at(0, 1), 0.0);
    }

    private static void textStays() {
        CHECK.says("Works out the text (which stays)");
        ArrayText x = new ArrayText();
        Check.become(x, "a+2");
        for (int k = 1; k <= 10; k++) {
            CHECK.due("run(0)", Check.run(x, 0), "1");
            CHECK.due("at(0, 0)", x.at(0, 0), 2.0 * k);
        }
        CHECK.due("write of *5", x.write(Check.packed("*5")), 2);
        CHECK.due("run(0)", Check.run(x, 0), "1");
        CHECK.due("at(0, 0) after a+2*5", x.at(0, 0), 30.0);
        CHECK.due("erase()", x.erase(), 5);
    }

    private static void everyVariableTakesTheResult() {
        CHECK.says("variable v becomes the result");
        for (int v = 0; v < 8; v++) {
            ArrayText x = Check.filled();
            CHECK.dueRun(x, "2 2#7 8 9", v, "4");
            for (int w = 0; w < 8; w++) {
                CHECK.due("variable " + w + " after run(" + v + ")", Check.array(x, w),
                        w == v ? "66: 7 8 9 7" : Check.array(Check.filled(), w));
            }
        }
    }

    private static void resultFromItself() {
        CHECK.says("variable v becomes the result");
        ArrayText x = new ArrayText();
        Check.fill(x, 0, 67, 1, 2, 3, 4, 5, 6);
        CHECK.dueRun(x, "~a", 0, "6");
        CHECK.due("variable 0", Check.array(x, 0), "98: 1 4 2 5 3 6");
        CHECK.dueRun(x, "8#a", 0, "8");
        CHECK.due("variable 0", Check.array(x, 0), "8: 1 4 2 5 3 6 1 4");
        CHECK.dueRun(x, "a,-a", 0, "16");
        CHECK.due("variable 0", Check.array(x, 0), "16: 1 4 2 5 3 6 1 4 -1 -4 -2 -5 -3 -6 -1 -4");
        CHECK.dueRun(x, "\\+a", 0, "16");
        CHECK.due("variable 0", Check.array(x, 0), "16: 1 5 7 12 15 21 22 26 25 21 19 14 11 5 4 0");
        CHECK.dueRun(x, "/|a", 0, "1");
        CHECK.due("variable 0", Check.array(x, 0), "0: 26");
    }

    private static void noSuchVariable() {
        CHECK.says("IndexOutOfBoundsException if v is not 0 .. 7");
        for (int v : NO_VARIABLES) {
            CHECK.dueRun(new ArrayText(), "1", v, Check.INDEX);
        }
        CHECK.dueRun(new ArrayText(), "1", 0, "1");
        CHECK.dueRun(new ArrayText(), "1", 7, "1");
    }

    private static void indexBeforeAll() {
        CHECK.says("Throws, the first that applies: IndexOutOfBoundsException if v is not 0 .. 7;"
                + " IllegalArgumentException for TEXT");
        for (int v : NO_VARIABLES) {
            for (String text : new String[] {"", "1+", "i2+i3", "i0", "/*9999 9999 9999 9999"}) {
                CHECK.dueRun(new ArrayText(), text, v, Check.INDEX);
            }
        }
    }

    private static void throwsInOrder() {
        CHECK.says("IllegalStateException for SHAPE and UnsupportedOperationException for SIZE, whichever is found"
                + " first; ArithmeticException for RANGE.");
        CHECK.dueRun(new ArrayText(), "", 0, Check.TEXT);
        CHECK.dueRun(new ArrayText(), "(i0)+(i2+i3)+/*5#9999+", 0, Check.TEXT);
        CHECK.dueRun(new ArrayText(), "(i0)+(i2+i3)+/*5#9999", 0, Check.SHAPE);
        CHECK.dueRun(new ArrayText(), "(i2+i3)+(i0)+/*5#9999", 0, Check.SIZE);
        CHECK.dueRun(new ArrayText(), "(i3+i3)+(3)+/*5#9999", 0, Check.RANGE);
        CHECK.dueRun(new ArrayText(), "(i3+i3)+(3)+/*3#9999", 0, "3");
    }

    /** The object, with the text, throws; then all that can be seen of it is as it was. */
    private static void dueNothingChanged(String text, int v, String want) {
        ArrayText x = Check.filled();
        x.put(0, 1e12);
        x.shape(1, 66);
        String before = Check.state(x);
        Check.become(x, text);
        CHECK.due("run(" + v + ") of " + text, Check.run(x, v), want);
        CHECK.due("state then", Check.state(x), before);
        CHECK.due("run(" + v + ") of " + text + " again", Check.run(x, v), want);
        CHECK.due("erase() then", x.erase(), text.length());
        Check.become(x, "c,d");
        CHECK.due("run(5) then", Check.run(x, 5), "7");
        CHECK.due("variable 5 then", Check.array(x, 5), "7: 20.5 21.5 22.5 30.5 31.5 32.5 33.5");
        CHECK.due("made() then", x.made(), 1);
        CHECK.due("runs() then", x.runs(), 2);
    }

    private static void indexChangesNothing() {
        CHECK.says("What throws changes nothing.");
        for (int v : NO_VARIABLES) {
            dueNothingChanged("c,c", v, Check.INDEX);
        }
    }

    private static void textChangesNothing() {
        CHECK.says("What throws changes nothing.");
        for (String text : new String[] {"", "c+", "(c", "~~~c)", "12345", "c,d,e,f,"}) {
            for (int v = 0; v < 8; v++) {
                dueNothingChanged(text, v, Check.TEXT);
            }
        }
    }

    private static void shapeChangesNothing() {
        CHECK.says("What throws changes nothing.");
        for (String text : new String[] {"c+d", "b,1", "~~~2#c", "a#1", "1 1 1#a", "(c,c,c),b"}) {
            for (int v = 0; v < 8; v++) {
                dueNothingChanged(text, v, Check.SHAPE);
            }
        }
    }

    private static void sizeChangesNothing() {
        CHECK.says("What throws changes nothing.");
        for (String text : new String[] {"i0", "i25", "h,h,h,1", "~~~0#c", "25#c", "0 1#1", "5 5#c"}) {
            for (int v = 0; v < 8; v++) {
                dueNothingChanged(text, v, Check.SIZE);
            }
        }
    }

    private static void rangeChangesNothing() {
        CHECK.says("What throws changes nothing.");
        for (String text : new String[] {"a+1", "c*a", "/+a,1", "\\+a,1", "~~~c,a+a", "0*a*a", "b-a+1"}) {
            for (int v = 0; v < 8; v++) {
                dueNothingChanged(text, v, Check.RANGE);
            }
        }
    }

    private static void textIsThereAfterAThrow() {
        CHECK.says("Works out the text (which stays)");
        ArrayText x = new ArrayText();
        Check.become(x, "a+");
        CHECK.due("run(2) of a+", Check.run(x, 2), Check.TEXT);
        x.write('b');
        x.shape(0, 2);
        x.shape(1, 3);
        CHECK.due("run(2) of a+b", Check.run(x, 2), Check.SHAPE);
        x.put(0, 1e12);
        x.set(1, 2, 1);
        CHECK.due("run(2) of a+b", Check.run(x, 2), Check.RANGE);
        x.put(0, 4);
        CHECK.due("run(9) of a+b", Check.run(x, 9), Check.INDEX);
        CHECK.due("run(2) of a+b", Check.run(x, 2), "3");
        CHECK.due("variable 2", Check.array(x, 2), "3: 4 4 5");
        x.write(Check.packed(",c,i18"));
        CHECK.due("run(2) of a+b,c,i18", Check.run(x, 2), "24");
        CHECK.due("run(2) of a+b,c,i18", Check.run(x, 2), Check.SIZE);
        x.shape(2, 3);
        CHECK.due("run(2) of a+b,c,i18", Check.run(x, 2), "24");
        CHECK.due("erase()", x.erase(), 9);
    }

    private static void lookTellsTheShape() {
        CHECK.says("The shape that the text has as an expression, with the variables as they are.");
        ArrayText x = new ArrayText();
        Check.become(x, "a");
        for (int shape : new int[] {0, 1, 24, 33, 56, 769, 67, 134}) {
            x.shape(0, shape);
            CHECK.due("look() of a", Check.look(x), String.valueOf(shape));
        }
        x.shape(0, 56);
        CHECK.dueLook(x, "~a", "769");
        CHECK.dueLook(x, "/+a", "1");
        CHECK.dueLook(x, "/+~a", "24");
        CHECK.dueLook(x, "/+/+a", "0");
        CHECK.dueLook(x, "a=a", "56");
        CHECK.dueLook(x, "(/+a),/+~a", Check.SIZE);
        x.shape(0, 55);
        CHECK.dueLook(x, "(/+a),/+~a", "24");
    }

    private static void lookThrows() {
        CHECK.says("Throws as run(0), but nothing for RANGE.");
        CHECK.dueLook(new ArrayText(), "", Check.TEXT);
        CHECK.dueLook(new ArrayText(), "(i0)+(i2+i3)+/*5#9999+", Check.TEXT);
        CHECK.dueLook(new ArrayText(), "(i0)+(i2+i3)+/*5#9999", Check.SHAPE);
        CHECK.dueLook(new ArrayText(), "(i2+i3)+(i0)+/*5#9999", Check.SIZE);
    }

    private static void lookThrowsNothingForRange() {
        CHECK.says("Throws as run(0), but nothing for RANGE.");
        ArrayText x = new ArrayText();
        Check.fill(x, 0, 3, 1e12, 1e12, 1e12);
        for (String text : new String[] {"a+1", "a*a", "\\+a", "\\*a", "~a-9-a"}) {
            CHECK.dueLook(x, text, "3");
            CHECK.due("run(0) of " + text, Check.run(x, 0), Check.RANGE);
        }
        CHECK.dueLook(x, "/+a", "0");
        CHECK.due("run(0) of /+a", Check.run(x, 0), Check.RANGE);
    }

    private static void lookChangesNothing() {
        CHECK.says("The shape that the text has as an expression, with the variables as they are.");
        for (String text : new String[] {"(~c),~~d", "i9", "", "c+d", "i0", "9999*9999*9999*9999"}) {
            ArrayText x = Check.filled();
            String before = Check.state(x);
            Check.become(x, text);
            String looked = Check.look(x);
            CHECK.due("state after look() of " + text, Check.state(x), before);
            CHECK.due("look() of " + text + " again", Check.look(x), looked);
            CHECK.due("erase() then", x.erase(), text.length());
        }
    }

    private static void made(String text, int want) {
        ArrayText x = new ArrayText();
        x.put(0, 2);
        Check.fill(x, 1, 3, 1, 2, 3);
        Check.fill(x, 2, 66, 1, 2, 3, 4);
        Check.become(x, text);
        CHECK.due("run(7) of " + text + " throws", Check.run(x, 7).startsWith("throws."), false);
        CHECK.due("made() by " + text, x.made(), want);
    }

    private static void arraysOfEachKind() {
        CHECK.says("one for each join, turn, reduction and run of the expression");
        made("a,a", 1);
        made("b,a,b", 2);
        made("(a,a),(a,a)", 3);
        made("~a", 1);
        made("~b", 1);
        made("~c", 1);
        made("~~~c", 3);
        for (char sign : "+*&|".toCharArray()) {
            made("/" + sign + "a", 1);
            made("/" + sign + "b", 1);
            made("/" + sign + "c", 1);
            made("\\" + sign + "a", 1);
            made("\\" + sign + "b", 1);
            made("\\" + sign + "c", 1);
            made("/" + sign + "/" + sign + "\\" + sign + "~c", 4);
        }
        made("~".repeat(39) + "a", 39);
        made("a,".repeat(19) + "a", 19);
    }

    private static void oneMoreIfTheWholeIsNone() {
        CHECK.says("and one more if the expression itself, as a whole, is none of these");
        for (String text : new String[] {"a", "3", "1 2 3", "i4", "-a", "6#b", "2 3#b", "-2 3#b"}) {
            made(text, 1);
        }
        for (char sign : "+-*<>=&|".toCharArray()) {
            made("a" + sign + "b", 1);
            made("(~a)" + sign + "~b", 3);
        }
        made("-~b", 2);
        made("-/+b", 2);
        made("-a,b", 2);
        made("-\\+b", 2);
        made("9#a,b", 2);
        made("4#~b", 2);
        made("~-b", 1);
        made("/+4#b", 1);
        made("1,-b", 1);
        made("(~a)+(~b)+~a", 4);
    }

    private static void parenthesesMakeNone() {
        CHECK.says("(parentheses around it mean nothing)");
        made("(a)", 1);
        made("((a))", 1);
        made("(~a)", 1);
        made("((a,b))", 1);
        made("(((/+b)))", 1);
        made("(\\+b)", 1);
        made("(-~b)", 2);
        made("((~b)+a)", 2);
        made("(4)#(~b)", 2);
    }

    private static void madeOfTheLatest() {
        CHECK.says("The arrays made by the latest run that threw nothing");
        ArrayText x = new ArrayText();
        CHECK.dueRun(x, "1,2,3,4", 1, "4");
        CHECK.due("made()", x.made(), 3);
        CHECK.dueRun(x, "~~~~", 0, Check.TEXT);
        CHECK.dueRun(x, "~~~~i2+i3", 0, Check.SHAPE);
        CHECK.dueRun(x, "~~~~i0", 0, Check.SIZE);
        CHECK.dueRun(x, "~~~~/*4#9999", 0, Check.RANGE);
        CHECK.dueRun(x, "~~~~1", 8, Check.INDEX);
        CHECK.dueLook(x, "~~~~1", "0");
        CHECK.due("made() after what threw", x.made(), 3);
        CHECK.dueRun(x, "1", 0, "1");
        CHECK.due("made()", x.made(), 1);
        CHECK.dueRun(x, "~~1", 0, "1");
        CHECK.due("made()", x.made(), 2);
    }

    private static void madeOfNone() {
        CHECK.says("0 if there was none");
        ArrayText x = new ArrayText();
        CHECK.due("made()", x.made(), 0);
        CHECK.dueLook(x, "1,2", "2");
        CHECK.due("made() after look()", x.made(), 0);
        CHECK.dueRun(x, "1,", 0, Check.TEXT);
        CHECK.dueRun(x, "i2+i3,1", 0, Check.SHAPE);
        CHECK.dueRun(x, "i24,1", 0, Check.SIZE);
        CHECK.dueRun(x, "1,9999*9999*9999*9999", 0, Check.RANGE);
        CHECK.dueRun(x, "1,2", -1, Check.INDEX);
        CHECK.due("made() after what threw", x.made(), 0);
        CHECK.dueRun(x, "1,2", 0, "2");
        CHECK.due("made()", x.made(), 1);
    }

    private static void runsOfGoodOnes() {
        CHECK.says("How many runs threw nothing since the beginning.");
        ArrayText x = new ArrayText();
        for (int k = 0; k < 20; k++) {
            CHECK.due("runs()", x.runs(), k);
            CHECK.dueRun(x, "1,", 0, Check.TEXT);
            CHECK.dueRun(x, "i2+i3", 0, Check.SHAPE);
            CHECK.dueRun(x, "i0", 0, Check.SIZE);
            CHECK.dueRun(x, "/*4#9999", 0, Check.RANGE);
            CHECK.dueRun(x, "1", 8, Check.INDEX);
            CHECK.due("look()", Check.look(x), "0");
            CHECK.due("runs()", x.runs(), k);
            CHECK.due("run(0)", Check.run(x, 0), "1");
        }
        CHECK.due("runs()", x.runs(), 20);
    }
}
