/** Promise 10, RANGE: found last, in every element and on the way, and then nothing changes. */
public final class RangeTest {
    private static final Check CHECK = new Check();
    private static final String RANGE = "throws.ArithmeticException";

    public static void main(String[] args) {
        theEdges();
        onTheWay();
        insideTheExpression();
        foundLast();
        changesNothing();
        CHECK.end();
    }

    /** a the most, b its negative, c a million, d a half, e the most, 1 and the least in a row, f 2 by 2. */
    private static ArrayText filled() {
        ArrayText x = new ArrayText();
        x.put(0, 1e12);
        x.put(1, -1e12);
        x.put(2, 1e6);
        x.put(3, 0.5);
        Check.fill(x, 4, 3, 1e12, 1, -1e12);
        Check.fill(x, 5, 66, 1, 2, 1e12, 1);
        return x;
    }

    private static void due(String text, String want) {
        CHECK.dueResult(filled(), text, want);
    }

    private static void theEdges() {
        due("a", "0: 1000000000000");
        due("b", "0: -1000000000000");
        due("-a", "0: -1000000000000");
        due("-b", "0: 1000000000000");
        due("c*c", "0: 1000000000000");
        due("c*-c", "0: -1000000000000");
        due("a+d", RANGE);
        due("b-d", RANGE);
        due("a-d", "0: 9.999999999995E11");
        due("a+0", "0: 1000000000000");
        due("d+c*c", RANGE);
        due("a*a", RANGE);
        due("a*b", RANGE);
        due("b*b", RANGE);
        due("a-b", RANGE);
        due("a+b", "0: 0");
        due("a|b", "0: 1000000000000");
        due("a>b", "0: 1");
        due("e,a", "4: 1000000000000 1 -1000000000000 1000000000000");
        due("e+1", RANGE);
        due("e-1", RANGE);
        due("e-e", "3: 0 0 0");
        due("f*2", RANGE);
        due("f*1", "66: 1 2 1000000000000 1");
    }

    private static void onTheWay() {
        due("/+e", RANGE);
        due("\\+e", RANGE);
        due("/+a,b,1", "0: 1");
        due("/+a,1,b", RANGE);
        due("/+b,(-1),a", RANGE);
        due("/*a,2,0", RANGE);
        due("\\*a,2,0", RANGE);
        due("/*a,0,2", "0: 0");
        due("\\*a,0,2", "3: 1000000000000 0 0");
        due("/*a,2,d", RANGE);
        due("/*a,d,2", "0: 1000000000000");
        due("/+f", RANGE);
        due("\\+f", RANGE);
        due("/*f", "2: 2 1000000000000");
        due("/|e", "0: 1000000000000");
        due("/&e", "0: -1000000000000");
        due("\\|e", "3: 1000000000000 1000000000000 1000000000000");
        due("\\&e", "3: 1000000000000 1 -1000000000000");
    }

    private static void insideTheExpression() {
        due("0*a+1", RANGE);
        due("(a+1)-1", RANGE);
        due("0&a*a", RANGE);
        due("1=(a*a)=a*a", RANGE);
        due("/+0*a*2", RANGE);
        due("/&(a*2),0", RANGE);
        due("3#(a+a)", RANGE);
        due("~b-1", RANGE);
        due("-b-1", RANGE);
    }

    private static void foundLast() {
        due("(a*a)+i0", "throws.UnsupportedOperationException");
        due("(i0)+a*a", "throws.UnsupportedOperationException");
        due("(a*a)+(1 2+1 2 3)", "throws.IllegalStateException");
        due("(1 2+1 2 3)+a*a", "throws.IllegalStateException");
        due("(a*a)#1", "throws.IllegalStateException");
        due("a*a*", "throws.IllegalArgumentException");
        CHECK.dueRun(filled(), "a*a", 8, "throws.IndexOutOfBoundsException");
    }

    private static void changesNothing() {
        for (String text : new String[] {"a*a", "e+1", "/+e", "\\+e", "f*2", "/+f", "0*a+1"}) {
            ArrayText x = filled();
            CHECK.dueRun(x, "(~d),~d", 7, "2");
            String before = Check.state(x);
            Check.become(x, text);
            for (int v = 0; v < 8; v++) {
                CHECK.due("run of " + text, Check.run(x, v), RANGE);
            }
            CHECK.due("state after " + text, Check.state(x), before);
            CHECK.due("erase() after " + text, x.erase(), text.length());
        }
    }
}
