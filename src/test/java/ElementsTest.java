/** Promise 10, the elements: what each sign and front works out. */
public final class ElementsTest {
    private static final Check CHECK = new Check();

    public static void main(String[] args) {
        byElement();
        joinsAndAnew();
        turns();
        reductions();
        runnings();
        resultIsKept();
        CHECK.end();
    }

    /** a a number alone, b and c rows of 4, d and e tables of 2 by 3, f a row of 1. */
    private static ArrayText filled() {
        ArrayText x = new ArrayText();
        x.put(0, 2.5);
        Check.fill(x, 1, 4, 1, -2, 3.5, 0);
        Check.fill(x, 2, 4, 1, 3, -3.5, 0.25);
        Check.fill(x, 3, 67, 1, 2, 3, 4, 5, 6);
        Check.fill(x, 4, 67, 6, 2, 9, -1, 5, 0);
        Check.fill(x, 5, 1, 7);
        return x;
    }

    private static void due(String text, String want) {
        CHECK.dueResult(filled(), text, want);
    }

    private static void byElement() {
        due("b+c", "4: 2 1 0 0.25");
        due("b-c", "4: 0 -5 7 -0.25");
        due("b*c", "4: 1 -6 -12.25 0");
        due("b<c", "4: 0 1 0 1");
        due("b>c", "4: 0 0 1 0");
        due("b=c", "4: 1 0 0 0");
        due("b&c", "4: 1 -2 -3.5 0");
        due("b|c", "4: 1 3 3.5 0.25");
        due("a+b", "4: 3.5 0.5 6 2.5");
        due("b+a", "4: 3.5 0.5 6 2.5");
        due("a-b", "4: 1.5 4.5 -1 2.5");
        due("b-a", "4: -1.5 -4.5 1 -2.5");
        due("a<b", "4: 0 0 1 0");
        due("b<a", "4: 1 1 0 1");
        due("a>b", "4: 1 1 0 1");
        due("a&b", "4: 1 -2 2.5 0");
        due("b|a", "4: 2.5 2.5 3.5 2.5");
        due("a-f", "1: -4.5");
        due("f-a", "1: 4.5");
        due("d-e", "67: -5 0 -6 5 0 6");
        due("d=e", "67: 0 1 0 0 1 0");
        due("a*d", "67: 2.5 5 7.5 10 12.5 15");
        due("d-a", "67: -1.5 -0.5 0.5 1.5 2.5 3.5");
        due("a*a", "0: 6.25");
        due("a=a", "0: 1");
        due("-b", "4: -1 2 -3.5 0");
        due("-a", "0: -2.5");
        due("-e", "67: -6 -2 -9 1 -5 0");
        due("g=-g", "0: 1");
    }

    private static void joinsAndAnew() {
        due("b,c", "8: 1 -2 3.5 0 1 3 -3.5 0.25");
        due("a,b", "5: 2.5 1 -2 3.5 0");
        due("b,a", "5: 1 -2 3.5 0 2.5");
        due("a,f", "2: 2.5 7");
        due("6#b", "6: 1 -2 3.5 0 1 -2");
        due("4#b", "4: 1 -2 3.5 0");
        due("9#b", "9: 1 -2 3.5 0 1 -2 3.5 0 1");
        due("2 3#b", "67: 1 -2 3.5 0 1 -2");
        due("3#a", "3: 2.5 2.5 2.5");
        due("2 2#a", "66: 2.5 2.5 2.5 2.5");
        due("8#d", "8: 1 2 3 4 5 6 1 2");
        due("3 2#d", "98: 1 2 3 4 5 6");
        due("1#a", "1: 2.5");
        due("1 1#f", "33: 7");
    }

    private static void turns() {
        due("~d", "98: 1 4 2 5 3 6");
        due("~~d", "67: 1 2 3 4 5 6");
        due("~3 4#i12", "131: 0 4 8 1 5 9 2 6 10 3 7 11");
        due("~b", "4: 1 -2 3.5 0");
        due("~a", "0: 2.5");
        due("~1 3#i3", "97: 0 1 2");
        due("~3 1#i3", "35: 0 1 2");
    }

    private static void reductions() {
        due("/+b", "0: 2.5");
        due("/*c", "0: -2.625");
        due("/&b", "0: -2");
        due("/|b", "0: 3.5");
        due("/+a", "0: 2.5");
        due("/*a", "0: 2.5");
        due("/+f", "0: 7");
        due("/+d", "2: 6 15");
        due("/*d", "2: 6 120");
        due("/&e", "2: 2 -1");
        due("/|e", "2: 9 5");
        due("/+~d", "3: 5 7 9");
        due("/+1 4#i4", "1: 6");
        due("/+4 1#i4", "4: 0 1 2 3");
        due("/+/+d", "0: 21");
        due("/*24#1", "0: 1");
        due("/+6 4#i24", "6: 6 22 38 54 70 86");
        // Tenths are not exact, so that another order would give another last digit.
        ArrayText x = new ArrayText();
        Check.fill(x, 0, 3, 0.1, 0.2, 0.3);
        Check.become(x, "/+a");
        CHECK.due("run(1) of /+a", Check.run(x, 1), "1");
        CHECK.due("at(1, 0)", x.at(1, 0), (0.1 + 0.2) + 0.3);
        Check.become(x, "/*a");
        CHECK.due("run(1) of /*a", Check.run(x, 1), "1");
        CHECK.due("at(1, 0)", x.at(1, 0), (0.1 * 0.2) * 0.3);
    }

    private static void runnings() {
        due("\\+b", "4: 1 -1 2.5 2.5");
        due("\\*c", "4: 1 3 -10.5 -2.625");
        due("\\&b", "4: 1 -2 -2 -2");
        due("\\|b", "4: 1 1 3.5 3.5");
        due("\\+a", "0: 2.5");
        due("\\+f", "1: 7");
        due("\\+d", "67: 1 3 6 4 9 15");
        due("\\*d", "67: 1 2 6 4 20 120");
        due("\\&e", "67: 6 2 2 -1 -1 -1");
        due("\\|e", "67: 6 6 9 -1 5 5");
        due("\\+~d", "98: 1 5 2 7 3 9");
        due("\\+4 1#i4", "129: 0 1 2 3");
    }

    private static void resultIsKept() {
        ArrayText x = filled();
        CHECK.dueRun(x, "b,a", 0, "5");
        CHECK.due("variable 0", Check.array(x, 0), "5: 1 -2 3.5 0 2.5");
        CHECK.due("run(0) again, with the text that stays", Check.run(x, 0), "9");
        CHECK.due("variable 0", Check.array(x, 0), "9: 1 -2 3.5 0 1 -2 3.5 0 2.5");
        CHECK.due("variable 1", Check.array(x, 1), "4: 1 -2 3.5 0");
        CHECK.dueRun(x, "~d", 3, "6");
        CHECK.due("variable 3, turned into itself", Check.array(x, 3), "98: 1 4 2 5 3 6");
        CHECK.dueRun(x, "/+d", 3, "3");
        CHECK.due("variable 3, reduced into itself", Check.array(x, 3), "3: 5 7 9");
        CHECK.dueRun(x, "d", 6, "3");
        x.set(3, 0, 99);
        CHECK.due("variable 6 after its source changed", Check.array(x, 6), "3: 5 7 9");
        CHECK.dueRun(x, "f", 7, "1");
        CHECK.due("variable 7", Check.array(x, 7), "1: 7");
        CHECK.dueRun(x, "7", 3, "1");
        CHECK.due("at(3, 1) after a shorter result", x.at(3, 1), 0.0);
        CHECK.due("erase() after runs", x.erase(), 1);
    }
}
