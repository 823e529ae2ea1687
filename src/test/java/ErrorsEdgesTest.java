/** The errors that the document names under "Terms": the edges of each, and which one of several is told. */
public final class ErrorsEdgesTest {
    private static final Check CHECK = new Check();
    private static final String[] SIGNS = {"+", "-", "*", "<", ">", "=", "&", "|", ",", "#"};
    private static final String[] FRONTS = {"-", "~", "/+", "/*", "/&", "/|", "\\+", "\\*", "\\&", "\\|"};
    private static final String[] SHAPE_FAULTS = {"(i2+i3)", "(h,1)", "(2#i3)", "(a#1)", "(1 1 1#1)"};
    private static final String[] SIZE_FAULTS = {"(i0)", "i25", "(0#1)", "(25#1)", "(i24,1)", "(0 9#1)", "(5 5#1)"};

    /** One ulp of 1e12: the least that can be added to go above. */
    private static final double STEP = Math.nextUp(1e12) - 1e12;

    public static void main(String[] args) {
        textBeforeAll();
        shapeOrSizeBeforeRange();
        noElements();
        moreThan24();
        noLines();
        partsBeforeTheWhole();
        rightPartBeforeLeftPart();
        partsOfParts();
        shapeBeforeSizeInAJoin();
        anewConstantFirst();
        anewSizeBeforeTooFew();
        anewAfterItsParts();
        rangeByElement();
        rangeOfEachElement();
        rangeInsideTheExpression();
        rangeOnTheWayOfAReduction();
        rangeOnTheWayOfARun();
        rangeOfThisRunAlone();
        CHECK.end();
    }

    /** a 1e12, b -1e12, c one step, d half a step, e a million, f -1, g a row of 3 with large ends, h 2 by 2. */
    private static ArrayText filled() {
        ArrayText x = new ArrayText();
        x.put(0, 1e12);
        x.put(1, -1e12);
        x.put(2, STEP);
        x.put(3, STEP / 2);
        x.put(4, 1e6);
        x.put(5, -1);
        Check.fill(x, 6, 3, 1e12, 0, -1e12);
        Check.fill(x, 7, 66, 1, 2, 3, 1e12);
        return x;
    }

    private static void due(String text, String want) {
        ArrayText x = filled();
        Check.become(x, text);
        String looked = Check.look(x);
        String ran = Check.run(x, 0);
        CHECK.due("run(0) of " + text, ran.startsWith("throws.") ? ran : Check.array(x, 0), want);
        boolean shapesFit = !want.startsWith("throws.") || want.equals(Check.RANGE);
        CHECK.due("look() of " + text + " throws", looked.startsWith("throws.") ? looked : "", shapesFit ? "" : want);
    }

    private static void textBeforeAll() {
        CHECK.says("ERRORS, the first kind that there is in the expression: TEXT (IllegalArgumentException) it is no"
                + " expression.");
        for (String fault : new String[] {"(i2+i3)", "(i0)", "(a*a)"}) {
            for (String text : new String[] {fault + "+", fault + "x", fault + ")", "(" + fault, "+" + fault,
                fault + "+12345", "12345+" + fault, fault + " ", "()," + fault, "i+" + fault}) {
                due(text, Check.TEXT);
            }
        }
    }

    private static void shapeOrSizeBeforeRange() {
        CHECK.says("ERRORS, the first kind that there is in the expression");
        for (String sign : SIGNS) {
            for (String fault : SHAPE_FAULTS) {
                due("(a*a)" + sign + fault, Check.SHAPE);
                due(fault + sign + "a*a", Check.SHAPE);
            }
            for (String fault : SIZE_FAULTS) {
                due("(a*a)" + sign + fault, Check.SIZE);
                due(fault + sign + "a*a", Check.SIZE);
            }
        }
        due("(a*a)#1", Check.SHAPE);
        due("(a*a)+i2+i3", Check.SHAPE);
        due("0#a*a", Check.SIZE);
        due("(g+g),24#1", Check.SIZE);
        due("h,a*a", Check.SHAPE);
    }

    private static void noElements() {
        CHECK.says("SIZE (UnsupportedOperationException) a row or table (also i n) that would have no elements");
        due("i0", Check.SIZE);
        due("i00", Check.SIZE);
        due("i0000", Check.SIZE);
        due("i1", "1: 0");
        due("0#f", Check.SIZE);
        due("0000#f", Check.SIZE);
        due("1#f", "1: -1");
        due("1 0#f", Check.SIZE);
        due("24 0#f", Check.SIZE);
        due("9999 0#f", Check.SIZE);
        due("1 1#f", "33: -1");
    }

    private static void moreThan24() {
        CHECK.says("or more than 24");
        due("i24*0", "24:" + " 0".repeat(24));
        due("i25*0", Check.SIZE);
        due("i9999", Check.SIZE);
        due("24#f", "24:" + " -1".repeat(24));
        due("25#f", Check.SIZE);
        due("9999#f", Check.SIZE);
        due("(23#f),f", "24:" + " -1".repeat(24));
        due("(24#f),f", Check.SIZE);
        due("(12#f),12#f", "24:" + " -1".repeat(24));
        due("(13#f),12#f", Check.SIZE);
        due("1 24#f", "56:" + " -1".repeat(24));
        due("1 25#f", Check.SIZE);
        due("24 1#f", "769:" + " -1".repeat(24));
        due("25 1#f", Check.SIZE);
        due("4 6#f", "134:" + " -1".repeat(24));
        due("5 5#f", Check.SIZE);
        due("2 13#f", Check.SIZE);
        due("13 2#f", Check.SIZE);
        due("9999 9999#f", Check.SIZE);
        due("9999 1#f", Check.SIZE);
        due("1 9999#f", Check.SIZE);
    }

    private static void noLines() {
        CHECK.says("or 0 lines.");
        due("0 1#f", Check.SIZE);
        due("0 24#f", Check.SIZE);
        due("0 25#f", Check.SIZE);
        due("0 9999#f", Check.SIZE);
        due("0 0#f", Check.SIZE);
        due("0000 0001#f", Check.SIZE);
    }

    private static void partsBeforeTheWhole() {
        CHECK.says("Of SHAPE and SIZE the one that is found first, if each expression is looked at after its parts");
        for (String fault : SHAPE_FAULTS) {
            for (String front : FRONTS) {
                due(front + fault, Check.SHAPE);
            }
            due("0#" + fault, Check.SHAPE);
            due("25#" + fault, Check.SHAPE);
            due(fault + ",i24", Check.SHAPE);
            due("(i24)," + fault, Check.SHAPE);
        }
        for (String fault : SIZE_FAULTS) {
            for (String front : FRONTS) {
                due(front + fault, Check.SIZE);
            }
            due("g+" + fault, Check.SIZE);
            due(fault + "+g", Check.SIZE);
            due("h," + fault, Check.SIZE);
            due(fault + ",h", Check.SIZE);
            due("1 1 1#" + fault, Check.SIZE);
            due("f#" + fault, Check.SIZE);
            due("1#" + fault, Check.SIZE);
        }
    }

    private static void rightPartBeforeLeftPart() {
        CHECK.says("and of two parts the right one before the left one");
        for (String sign : SIGNS) {
            for (String shape : SHAPE_FAULTS) {
                for (String size : SIZE_FAULTS) {
                    due(shape + sign + size, Check.SIZE);
                    due(size + sign + shape, Check.SHAPE);
                }
                due(shape + sign + "1", Check.SHAPE);
            }
            for (String size : SIZE_FAULTS) {
                due(size + sign + "1", Check.SIZE);
            }
        }
    }

    private static void partsOfParts() {
        CHECK.says("each expression is looked at after its parts, and of two parts the right one before the left one");
        due("i2+i3+i0", Check.SIZE);
        due("i0+i2+i3", Check.SHAPE);
        due("(i2+i3)+(i0)+1", Check.SIZE);
        due("(i0)+(i2+i3)+1", Check.SHAPE);
        due("((i2+i3)+1)+1+i0", Check.SIZE);
        due("((i0)+1)+1+i2+i3", Check.SHAPE);
        due("(1+(i0)+i2+i3)+1", Check.SHAPE);
        due("(1+(i2+i3)+i0)+1", Check.SIZE);
        due("-(i0),~/+i2+i3", Check.SHAPE);
        due("-(i2+i3),~/+i0", Check.SIZE);
        due("i2+(i24,1)+i3", Check.SIZE);
        due("(i2+i3)+i24,1", Check.SIZE);
        due("(i24,1)+i2+i3", Check.SHAPE);
        due("((i24,1)+i2)+i3", Check.SIZE);
        due("(h,1)+25#1", Check.SIZE);
        due("(25#1)+h,1", Check.SHAPE);
        due("(3#25#1)+1", Check.SIZE);
        due("25#3#i4", Check.SHAPE);
        due("3#(25#i4)", Check.SIZE);
    }

    private static void shapeBeforeSizeInAJoin() {
        CHECK.says("in one expression SHAPE before SIZE");
        due("h,i24", Check.SHAPE);
        due("i24,h", Check.SHAPE);
        due("(4 6#1),4 6#1", Check.SHAPE);
        due("(1 24#1),1", Check.SHAPE);
        due("1,24 1#1", Check.SHAPE);
        due("i24,i24", Check.SIZE);
    }

    private static void anewConstantFirst() {
        CHECK.says("but in x # y first whether x is such a constant, then SIZE, then whether there are too few"
                + " elements");
        due("0 0 0#1", Check.SHAPE);
        due("25 25 25#1", Check.SHAPE);
        due("0 0 0#i3", Check.SHAPE);
        due("(0+0)#1", Check.SHAPE);
        due("(25+0)#1", Check.SHAPE);
        due("(0,0)#1", Check.SHAPE);
        due("(-25)#1", Check.SHAPE);
        due("a#1", Check.SHAPE);
        due("a#i24", Check.SHAPE);
    }

    private static void anewSizeBeforeTooFew() {
        CHECK.says("but in x # y first whether x is such a constant, then SIZE, then whether there are too few"
                + " elements");
        due("0#i2", Check.SIZE);
        due("0#1", Check.SIZE);
        due("0 3#i2", Check.SIZE);
        due("3 0#i2", Check.SIZE);
        due("0 0#i24", Check.SIZE);
        due("1#i2", Check.SHAPE);
        due("1 1#i2", Check.SHAPE);
        due("23#i24", Check.SHAPE);
        due("25#i24", Check.SIZE);
        due("24#i24*0", "24:" + " 0".repeat(24));
    }

    private static void anewAfterItsParts() {
        CHECK.says("if each expression is looked at after its parts");
        due("(i0)#1", Check.SIZE);
        due("i0#1", Check.SIZE);
        due("i25#1", Check.SIZE);
        due("i1#1", Check.SHAPE);
        due("(24 24#1)#1", Check.SIZE);
        due("(i24,1)#i24", Check.SIZE);
        due("(i2+i3)#1", Check.SHAPE);
        due("(i0)#i2+i3", Check.SHAPE);
        due("(i2+i3)#i0", Check.SIZE);
        due("0 0 0#i0", Check.SIZE);
        due("0#i2+i3", Check.SHAPE);
    }

    private static void rangeByElement() {
        CHECK.says("RANGE (ArithmeticException) an element, or a result on the way of a reduction or run, above"
                + " 1000000000000 or below -1000000000000.");
        String most = "0: 1000000000000";
        String least = "0: -1000000000000";
        due("a", most);
        due("b", least);
        due("-a", least);
        due("-b", most);
        due("a+d", most);
        due("a+c", Check.RANGE);
        due("b-d", least);
        due("b-c", Check.RANGE);
        due("c+a", Check.RANGE);
        due("(-c)+b", Check.RANGE);
        due("a-b", Check.RANGE);
        due("b-a", Check.RANGE);
        due("a-a", "0: 0");
        due("e*e", most);
        due("e*-e", least);
        due("e*e+c", Check.RANGE);
        due("e*-e+1", Check.RANGE);
        due("a*1", most);
        due("a*f", least);
        due("b*f", most);
        due("a*2", Check.RANGE);
        due("b*2", Check.RANGE);
        due("a&b", least);
        due("a|b", most);
        due("a=b", "0: 0");
        due("a<b", "0: 0");
        due("a>b", "0: 1");
    }

    private static void rangeOfEachElement() {
        CHECK.says("RANGE (ArithmeticException) an element, or a result on the way of a reduction or run, above"
                + " 1000000000000 or below -1000000000000.");
        due("g+0", "3: 1000000000000 0 -1000000000000");
        due("g+c", Check.RANGE);
        due("g-c", Check.RANGE);
        due("-g", "3: -1000000000000 0 1000000000000");
        due("h*1", "66: 1 2 3 1000000000000");
        due("h+c", Check.RANGE);
        due("h-3", "66: -2 -1 0 999999999997");
        ArrayText x = filled();
        for (int i = 0; i < 24; i++) {
            x.shape(6, 24);
            x.set(6, i, 1e12);
            CHECK.dueRun(x, "g+c", 0, Check.RANGE);
            CHECK.dueRun(x, "g+d", 1, "24");
            x.put(1, -1e12);
        }
    }

    /** What a larger expression makes of the element, even if it uses none of it, does not matter. */
    private static void rangeInsideTheExpression() {
        CHECK.says("RANGE (ArithmeticException) an element");
        due("(a+c)-c", Check.RANGE);
        due("0*a+c", Check.RANGE);
        due("0&a+c", Check.RANGE);
        due("0|b-c", Check.RANGE);
        due("0<a+c", Check.RANGE);
        due("(a+c)=a+c", Check.RANGE);
        due("-a+c", Check.RANGE);
        due("~a+c", Check.RANGE);
        due("1,a+c", Check.RANGE);
        due("(a+c),1", Check.RANGE);
        due("9#a+c", Check.RANGE);
        due("/&0,a+c", Check.RANGE);
        due("\\&0,a+c", Check.RANGE);
        due("/+a+c", Check.RANGE);
        due("\\+a+c", Check.RANGE);
        due("0*/+g-c", Check.RANGE);
        due("0*\\+a,c", Check.RANGE);
    }

    private static void rangeOnTheWayOfAReduction() {
        CHECK.says("or a result on the way of a reduction or run");
        due("/+a,d", "0: 1000000000000");
        due("/+a,c", Check.RANGE);
        due("/+b,-d", "0: -1000000000000");
        due("/+b,-c", Check.RANGE);
        due("/+a,c,b", Check.RANGE);
        due("/+a,b,c", "0: " + STEP);
        due("/+b,(-c),a", Check.RANGE);
        due("/*a,2,0", Check.RANGE);
        due("/*b,2,0", Check.RANGE);
        due("/*a,0,2", "0: 0");
        due("/*e,e,f", "0: -1000000000000");
        due("/*e,e,2,0", Check.RANGE);
        due("/+2 3#a,0,b,a,c,b", Check.RANGE);
        due("/+2 3#a,0,b,a,b,c", "2: 0 " + STEP);
        due("/+2 3#a,c,b,0,0,0", Check.RANGE);
        due("/+3 1#a", "3: 1000000000000 1000000000000 1000000000000");
        due("/+1 3#a", Check.RANGE);
        due("/|a,a,a", "0: 1000000000000");
        due("/&b,b,b", "0: -1000000000000");
    }

    private static void rangeOnTheWayOfARun() {
        CHECK.says("or a result on the way of a reduction or run");
        due("\\+a,d", "2: 1000000000000 1000000000000");
        due("\\+a,c", Check.RANGE);
        due("\\+b,-c", Check.RANGE);
        due("\\+a,c,b", Check.RANGE);
        due("\\+a,b,a", "3: 1000000000000 0 1000000000000");
        due("\\*a,2,0", Check.RANGE);
        due("\\*b,2,0", Check.RANGE);
        due("\\*a,0,2", "3: 1000000000000 0 0");
        due("\\+2 3#a,0,b,a,c,b", Check.RANGE);
        due("\\+2 3#a,0,b,0,a,b", "67: 1000000000000 1000000000000 0 0 1000000000000 0");
        due("\\+3 1#a", "97: 1000000000000 1000000000000 1000000000000");
        due("\\|a,a", "2: 1000000000000 1000000000000");
        due("\\&b,b", "2: -1000000000000 -1000000000000");
    }

    /** Rows that serve every call still hold what was worked out before, behind a shorter array's end. */
    private static void rangeOfThisRunAlone() {
        CHECK.says("the first kind that there is in the expression");
        ArrayText x = new ArrayText();
        Check.fill(x, 0, 4, 1, 2, 1e12, 1e12);
        Check.fill(x, 1, 4, 3, 4, 1e12, 1e12);
        CHECK.dueResult(x, "a&b", "4: 1 2 1000000000000 1000000000000");
        CHECK.dueResult(x, "\\|a", "4: 1 2 1000000000000 1000000000000");
        Check.fill(x, 0, 2, 1, 2);
        Check.fill(x, 1, 2, 3, 4);
        CHECK.dueResult(x, "a*b", "2: 3 8");
        CHECK.dueResult(x, "\\*a", "2: 1 2");
        CHECK.dueResult(x, "/+a", "0: 3");
        CHECK.dueResult(x, "a,b", "4: 1 2 3 4");
    }
}
