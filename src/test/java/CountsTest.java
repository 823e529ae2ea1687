/** Promises 12 and 13: made and runs. */
public final class CountsTest {
    private static final Check CHECK = new Check();

    public static void main(String[] args) {
        madeByOneRun();
        madeByTheLatestGoodRun();
        runsCountGoodOnes();
        CHECK.end();
    }

    private static void made(String text, int want) {
        ArrayText x = new ArrayText();
        Check.fill(x, 1, 3, 1, 2, 3);
        Check.fill(x, 2, 66, 1, 2, 3, 4);
        Check.become(x, text);
        String ran = Check.run(x, 0);
        CHECK.due("run(0) of " + text + " throws", ran.startsWith("throws."), false);
        CHECK.due("made() by " + text, x.made(), want);
    }

    private static void madeByOneRun() {
        made("a", 1);
        made("7", 1);
        made("1 2 3", 1);
        made("i5", 1);
        made("(a)", 1);
        made("a+b*a-b", 1);
        made("-b", 1);
        made("2 3#b", 1);
        made("6#2 3#b", 1);
        made("b,b", 1);
        made("(b,b)", 1);
        made("((b,b))", 1);
        made("b,b,b", 2);
        made("(b,b),b", 2);
        made("~c", 1);
        made("~a", 1);
        made("~b", 1);
        made("~~c", 2);
        made("/+b", 1);
        made("/+a", 1);
        made("\\+b", 1);
        made("\\+a", 1);
        made("(/+b)", 1);
        made("-/+b", 2);
        made("/+-b", 1);
        made("1+/+b", 2);
        made("/+1+b", 1);
        made("(/+b)+/+b", 3);
        made("(/+b),/+b", 3);
        made("6#b,b", 2);
        made("(~c)+\\+c", 3);
        made("/+/*~\\&\\|c", 5);
        made("(b,1)=1,b", 3);
        made("((~c))*((~c))", 3);
    }

    private static void madeByTheLatestGoodRun() {
        ArrayText x = new ArrayText();
        CHECK.due("made() before any run", x.made(), 0);
        CHECK.dueRun(x, "1,2,3,4", 0, "4");
        CHECK.due("made()", x.made(), 3);
        CHECK.dueRun(x, "~~~~i0", 0, "throws.UnsupportedOperationException");
        CHECK.dueRun(x, "~~~~", 0, "throws.IllegalArgumentException");
        CHECK.dueRun(x, "~~~~a+1 2", 0, "throws.IllegalStateException");
        CHECK.dueRun(x, "/*/*9999 9999 9999 9999", 0, "throws.ArithmeticException");
        CHECK.dueRun(x, "~~~~1", 8, "throws.IndexOutOfBoundsException");
        CHECK.dueLook(x, "~~~~1", "0");
        CHECK.due("made() after runs that threw", x.made(), 3);
        x.erase();
        CHECK.due("made() after erase", x.made(), 3);
        CHECK.dueRun(x, "1", 0, "1");
        CHECK.due("made() after the next run", x.made(), 1);
    }

    private static void runsCountGoodOnes() {
        ArrayText x = new ArrayText();
        CHECK.due("runs() before any run", x.runs(), 0);
        for (int k = 1; k <= 50; k++) {
            CHECK.dueRun(x, "a+1", 0, "1");
            CHECK.dueRun(x, "i0", 0, "throws.UnsupportedOperationException");
            CHECK.due("runs()", x.runs(), k);
        }
        CHECK.due("at(0, 0) after 50 runs", x.at(0, 0), 50.0);
        CHECK.dueRun(x, "a+", 0, "throws.IllegalArgumentException");
        CHECK.dueRun(x, "1 2+1 2 3", 0, "throws.IllegalStateException");
        CHECK.dueRun(x, "9999*9999*9999*9999", 0, "throws.ArithmeticException");
        CHECK.dueRun(x, "a", -1, "throws.IndexOutOfBoundsException");
        CHECK.dueLook(x, "a", "0");
        CHECK.due("runs() after what threw and a look", x.runs(), 50);
    }
}
