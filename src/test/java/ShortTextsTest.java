/**
 * Promises 10 and 11 for every text of up to two characters, and for every text of three and four out of the
 * characters that matter, against the second way of working.
 */
public final class ShortTextsTest {
    private static final Check CHECK = new Check();
    private static final String CHARACTERS = "ahi029 +-<,#~/\\()";
    private static final int TEXTS_AN_OBJECT = 50;
    private static final int[] SHAPES = {0, 1, 2, 3, 24, 33, 66, 67};

    private static ArrayText object = null;
    private static Plain.Lines[] variables = null;
    private static int texts = 0;

    public static void main(String[] args) {
        compare("");
        for (char first = 1; first <= 127; first++) {
            compare(String.valueOf(first));
            for (char second = 1; second <= 127; second++) {
                compare("" + first + second);
            }
        }
        for (char first : CHARACTERS.toCharArray()) {
            compareAllBehind(String.valueOf(first), 4);
        }
        CHECK.due("there were many texts", texts > 80000, true);
        CHECK.end();
    }

    private static void compareAllBehind(String text, int most) {
        if (text.length() > 2) {
            compare(text);
        }
        if (text.length() < most) {
            for (char next : CHARACTERS.toCharArray()) {
                compareAllBehind(text + next, most);
            }
        }
    }

    private static void compare(String text) {
        if (texts % TEXTS_AN_OBJECT == 0) {
            makeObject();
        }
        texts++;
        Plain plain = new Plain(variables);
        String want = plain.work(text);
        CHECK.dueLook(object, text, plain.looked);
        CHECK.due("run(1) of " + text, Check.run(object, 1), want);
        if (!want.startsWith("throws.")) {
            variables[1] = plain.result;
            CHECK.due("shapeOf(1) after " + text, object.shapeOf(1), plain.result.shape());
            CHECK.due("made() by " + text, object.made(), plain.made);
        }
    }

    private static void makeObject() {
        object = new ArrayText();
        variables = new Plain.Lines[8];
        for (int v = 0; v < 8; v++) {
            object.shape(v, SHAPES[v]);
            variables[v] = Plain.Lines.zeros(SHAPES[v]);
        }
    }
}
