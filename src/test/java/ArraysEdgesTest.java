/** The edges that the document names under "Terms" for arrays, their shapes and the variables. */
public final class ArraysEdgesTest {
    private static final Check CHECK = new Check();

    public static void main(String[] args) {
        numberAlone();
        rowsByCall();
        rowsByRun();
        tablesByCall();
        tablesByRun();
        tablesAtTheEdges();
        lineByLine();
        doubles();
        variablesByNumber();
        variablesByName();
        CHECK.end();
    }

    private static void numberAlone() {
        CHECK.says("An ARRAY is a NUMBER alone (shape 0)");
        ArrayText x = new ArrayText();
        x.shape(0, 5);
        CHECK.due("shape(0, 0)", x.shape(0, 0), true);
        CHECK.due("shapeOf(0)", x.shapeOf(0), 0);
        CHECK.due("size(0)", x.size(0), 1);
        CHECK.due("set(0, 0, 5)", x.set(0, 0, 5), true);
        CHECK.due("set(0, 1, 5)", x.set(0, 1, 5), false);
        CHECK.due("set(0, -1, 5)", x.set(0, -1, 5), false);
        CHECK.due("at(0, 0)", x.at(0, 0), 5.0);
        CHECK.due("at(0, 1)", x.at(0, 1), 0.0);
        CHECK.dueResult(x, "a", "0: 5");
        CHECK.dueResult(x, "1#a", "1: 5");
        CHECK.dueResult(x, "1 1#a", "33: 5");
    }

    private static void rowsByCall() {
        CHECK.says("a ROW of 1 .. 24 elements (shape: how many)");
        for (int many = 1; many <= 24; many++) {
            ArrayText x = new ArrayText();
            CHECK.due("shape(3, " + many + ")", x.shape(3, many), true);
            CHECK.due("shapeOf(3)", x.shapeOf(3), many);
            CHECK.due("size(3)", x.size(3), many);
            CHECK.due("set(3, " + (many - 1) + ", 6)", x.set(3, many - 1, 6), true);
            CHECK.due("set(3, " + many + ", 7)", x.set(3, many, 7), false);
            CHECK.due("at(3, " + (many - 1) + ")", x.at(3, many - 1), 6.0);
            CHECK.due("at(3, " + many + ")", x.at(3, many), 0.0);
        }
        for (int shape : new int[] {-1, 25, 26, 30, 31}) {
            CHECK.due("shape(3, " + shape + ")", new ArrayText().shape(3, shape), false);
        }
    }

    private static void rowsByRun() {
        CHECK.says("a ROW of 1 .. 24 elements (shape: how many)");
        for (int many = 0; many <= 26; many++) {
            String want = many >= 1 && many <= 24 ? String.valueOf(many) : Check.SIZE;
            for (String text : new String[] {"i" + many, many + "#a"}) {
                ArrayText x = new ArrayText();
                CHECK.dueLook(x, text, want);
                CHECK.dueRun(x, text, 1, want);
            }
        }
        for (int left = 1; left <= 24; left++) {
            ArrayText x = new ArrayText();
            CHECK.dueRun(x, "i" + left + ",i" + (25 - left), 1, Check.SIZE);
            if (left < 24) {
                CHECK.dueRun(x, "i" + left + ",i" + (24 - left), 1, "24");
                CHECK.due("shapeOf(1)", x.shapeOf(1), 24);
            }
        }
    }

    private static boolean isTable(int lines, int length) {
        return lines >= 1 && lines <= 24 && length >= 1 && length <= 24 && lines * length <= 24;
    }

    private static void tablesByCall() {
        CHECK.says("a TABLE of r lines of c elements (shape 32 * r + c), r and c 1 .. 24, r * c at most 24");
        for (int lines = 1; lines <= 40; lines++) {
            for (int length = 0; length < 32; length++) {
                ArrayText x = new ArrayText();
                int shape = 32 * lines + length;
                boolean taken = isTable(lines, length);
                CHECK.due("shape(7, " + shape + ")", x.shape(7, shape), taken);
                CHECK.due("shapeOf(7) then", x.shapeOf(7), taken ? shape : 0);
                CHECK.due("size(7) then", x.size(7), taken ? lines * length : 1);
                CHECK.due("set(7, " + lines * length + ", 1) then", x.set(7, Math.max(1, lines * length), 1), false);
            }
        }
    }

    private static void tablesByRun() {
        CHECK.says("a TABLE of r lines of c elements (shape 32 * r + c), r and c 1 .. 24, r * c at most 24");
        for (int lines = 0; lines <= 26; lines++) {
            for (int length = 0; length <= 32; length++) {
                ArrayText x = new ArrayText();
                String text = lines + " " + length + "#a";
                boolean taken = isTable(lines, length);
                CHECK.dueLook(x, text, taken ? String.valueOf(32 * lines + length) : Check.SIZE);
                CHECK.due("run(7) of " + text, Check.run(x, 7), taken ? String.valueOf(lines * length) : Check.SIZE);
                CHECK.due("shapeOf(7) then", x.shapeOf(7), taken ? 32 * lines + length : 0);
            }
        }
    }

    /** Written out, since a mistake in isTable would hide one in the class. */
    private static void tablesAtTheEdges() {
        CHECK.says("r and c 1 .. 24, r * c at most 24");
        int[] taken = {33, 56, 769, 76, 385, 386, 104, 258, 259, 134, 196, 164, 133};
        for (int shape : taken) {
            CHECK.due("shape(0, " + shape + ")", new ArrayText().shape(0, shape), true);
        }
        int[] refused = {32, 57, 63, 64, 77, 105, 135, 165, 197, 260, 387, 416 + 2, 768, 770, 800, 801, 802,
            32 * 32 + 1, 32 * 1024 + 1, Integer.MAX_VALUE, Integer.MIN_VALUE, Integer.MIN_VALUE + 33, -33, -32};
        for (int shape : refused) {
            CHECK.due("shape(0, " + shape + ")", new ArrayText().shape(0, shape), false);
        }
    }

    private static void lineByLine() {
        CHECK.says("the elements of a table are counted line by line");
        ArrayText x = new ArrayText();
        x.shape(0, 32 * 2 + 3);
        x.set(0, 2, 5);
        x.set(0, 3, 7);
        CHECK.dueResult(x, "/+a", "2: 5 7");
        CHECK.dueResult(x, "/+~a", "3: 7 0 5");
        CHECK.dueResult(x, "/|2 3#i6", "2: 2 5");
        CHECK.dueResult(x, "/|3 2#i6", "3: 1 3 5");
    }

    private static void doubles() {
        CHECK.says("Elements are doubles.");
        ArrayText x = new ArrayText();
        x.shape(0, 6);
        double[] elements = {0.1, Double.MIN_VALUE, -Double.MIN_NORMAL, Math.nextDown(1e12), Math.PI, 1.0 / 3.0};
        for (int i = 0; i < elements.length; i++) {
            x.set(0, i, elements[i]);
        }
        CHECK.dueRun(x, "a", 1, "6");
        for (int i = 0; i < elements.length; i++) {
            CHECK.due("at(0, " + i + ")", x.at(0, i), elements[i]);
            CHECK.due("at(1, " + i + ")", x.at(1, i), elements[i]);
        }
        x.put(2, 0.7);
        CHECK.dueRun(x, "a*c", 1, "6");
        for (int i = 0; i < elements.length; i++) {
            CHECK.due("at(1, " + i + ")", x.at(1, i), elements[i] * 0.7);
        }
    }

    private static void variablesByNumber() {
        CHECK.says("The VARIABLES 0 .. 7 hold arrays");
        for (int v = -2; v <= 9; v++) {
            boolean there = v >= 0 && v <= 7;
            ArrayText x = new ArrayText();
            CHECK.due("put(" + v + ", 4)", x.put(v, 4), there);
            CHECK.due("at(" + v + ", 0)", x.at(v, 0), there ? 4.0 : 0.0);
            CHECK.due("shape(" + v + ", 3)", x.shape(v, 3), there);
            CHECK.due("set(" + v + ", 2, 6)", x.set(v, 2, 6), there);
            CHECK.due("at(" + v + ", 2)", x.at(v, 2), there ? 6.0 : 0.0);
            CHECK.due("shapeOf(" + v + ")", x.shapeOf(v), there ? 3 : -1);
            CHECK.due("size(" + v + ")", x.size(v), there ? 3 : -1);
            CHECK.dueRun(x, "i9", v, there ? "9" : Check.INDEX);
        }
    }

    private static void variablesByName() {
        CHECK.says("their names are a to h");
        ArrayText x = new ArrayText();
        for (int v = 0; v < 8; v++) {
            x.put(v, 100 + v);
        }
        for (char c = 'a'; c <= 'h'; c++) {
            Check.become(x, "2*" + c);
            CHECK.due("look() of 2*" + c, Check.look(x), "0");
            Check.become(x, "5#" + c);
            Check.run(x, c - 'a');
            CHECK.due("run of 5#" + c, Check.array(x, c - 'a'), "5:" + (" " + (100 + c - 'a')).repeat(5));
        }
        for (char c : new char[] {'a' - 1, 'i', 'j', 'A', 'H', 'z'}) {
            CHECK.dueLook(x, String.valueOf(c), Check.TEXT);
            CHECK.dueRun(x, "a+" + c, 0, Check.TEXT);
        }
    }
}
