import java.util.Objects;

/** Compares answers with what is due, and tells a call's answer as a text, an exception as "throws." and its name. */
final class Check {
    static final String INDEX = "throws.IndexOutOfBoundsException";
    static final String TEXT = "throws.IllegalArgumentException";
    static final String SHAPE = "throws.IllegalStateException";
    static final String SIZE = "throws.UnsupportedOperationException";
    static final String RANGE = "throws.ArithmeticException";

    private int wrong = 0;
    private String sentence = "";

    /** The document's sentence that the checks from here on would show broken. */
    void says(String documentSentence) {
        sentence = "[" + documentSentence + "] ";
    }

    void due(String call, Object got, Object want) {
        if (!Objects.equals(got, want)) {
            wrong++;
            System.out.println(sentence + call + " answered " + got + ", due is " + want);
        }
    }

    /** The answer of run(v) with this text, on an object that has no other text afterwards. */
    void dueRun(ArrayText x, String text, int v, String want) {
        become(x, text);
        due("run(" + v + ") of " + text, run(x, v), want);
    }

    /** What the text is worked out to, told as array() tells it, or what run and look throw. */
    void dueResult(ArrayText x, String text, String want) {
        become(x, text);
        String ran = run(x, 7);
        due("run(7) of " + text, ran.startsWith("throws.") ? ran : array(x, 7), want);
    }

    void dueLook(ArrayText x, String text, String want) {
        become(x, text);
        due("look() of " + text, look(x), want);
    }

    void end() {
        System.out.println(wrong == 0 ? "all answers are as due" : wrong + " answers are not as due");
        if (wrong != 0) {
            System.exit(1);
        }
    }

    static long packed(String characters) {
        long chars = 0;
        for (int k = characters.length() - 1; k >= 0; k--) {
            chars = (chars << 8) | characters.charAt(k);
        }
        return chars;
    }

    /** A text that does not fit is the test's own mistake, and would go unseen otherwise. */
    static void become(ArrayText x, String text) {
        x.erase();
        for (int from = 0; from < text.length(); from += 8) {
            String characters = text.substring(from, Math.min(text.length(), from + 8));
            if (x.write(packed(characters)) != characters.length()) {
                throw new AssertionError("write refused a part of " + text);
            }
        }
    }

    static String run(ArrayText x, int v) {
        try {
            return String.valueOf(x.run(v));
        } catch (RuntimeException e) {
            return "throws." + e.getClass().getSimpleName();
        }
    }

    static String look(ArrayText x) {
        try {
            return String.valueOf(x.look());
        } catch (RuntimeException e) {
            return "throws." + e.getClass().getSimpleName();
        }
    }

    /** The shape, and the elements behind a colon. */
    static String array(ArrayText x, int v) {
        StringBuilder told = new StringBuilder().append(x.shapeOf(v)).append(':');
        int many = x.size(v);
        for (int i = 0; i < many; i++) {
            told.append(' ').append(element(x.at(v, i)));
        }
        return told.toString();
    }

    /** 0.0 is added so that no negative zero is told. */
    static String element(double x) {
        double element = x + 0.0;
        return element == Math.rint(element) ? String.valueOf((long) element) : String.valueOf(element);
    }

    /** An object with variable v holding a row of v + 1 elements, no two alike, and one run that made three arrays. */
    static ArrayText filled() {
        ArrayText x = new ArrayText();
        become(x, "0,0,0,0");
        run(x, 0);
        x.erase();
        for (int v = 0; v < 8; v++) {
            x.shape(v, v + 1);
            for (int i = 0; i <= v; i++) {
                x.set(v, i, 10 * v + i + 0.5);
            }
        }
        return x;
    }

    /** All that can be seen of an object but its text. */
    static String state(ArrayText x) {
        StringBuilder told = new StringBuilder();
        for (int v = 0; v < 8; v++) {
            told.append(array(x, v)).append("; ");
        }
        return told.append("made ").append(x.made()).append(", runs ").append(x.runs()).toString();
    }

    /** Variable v becomes an array with this shape and these elements. */
    static void fill(ArrayText x, int v, int shape, double... elements) {
        x.shape(v, shape);
        for (int i = 0; i < elements.length; i++) {
            x.set(v, i, elements[i]);
        }
    }
}
