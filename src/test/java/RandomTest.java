import java.util.List;
import java.util.Random;

/**
 * Promises 10 to 13 against a second way of working. The texts are made from a fixed seed, so that every run is the
 * same.
 */
public final class RandomTest {
    private static final Check CHECK = new Check();
    private static final int OBJECTS = 15000;
    private static final int TEXTS_AN_OBJECT = 8;
    private static final int[] SHAPES = {0, 0, 1, 2, 3, 4, 6, 12, 24, 33, 34, 65, 66, 67, 98, 99, 134, 56, 769};

    public static void main(String[] args) {
        Random random = new Random(20261116);
        int good = 0;
        for (int k = 0; k < OBJECTS; k++) {
            good += useOne(random);
        }
        CHECK.due("there were many good runs", good > OBJECTS, true);
        CHECK.end();
    }

    /**
     * Makes an object and runs texts on it, each into another variable, so that the state at the end tells all
     * results within 512 calls; how many runs threw nothing.
     */
    private static int useOne(Random random) {
        ArrayText x = new ArrayText();
        Plain.Lines[] variables = scatter(x, random);
        int first = random.nextInt(8);
        int good = 0;
        int made = 0;
        for (int k = 0; k < TEXTS_AN_OBJECT; k++) {
            String whole = expression(random, 4);
            String text = k % 3 == 0 ? spoiled(whole, random) : whole;
            int v = (first + k) % 8;
            Plain plain = new Plain(variables);
            if (text.length() <= 40 && compare(x, plain, text, v)) {
                variables[v] = plain.result;
                made = plain.made;
                good++;
            }
        }
        StringBuilder want = new StringBuilder();
        for (Plain.Lines variable : variables) {
            want.append(variable.told()).append("; ");
        }
        want.append("made ").append(made).append(", runs ").append(good);
        CHECK.due("state after all texts", Check.state(x), want.toString());
        return good;
    }

    private static boolean compare(ArrayText x, Plain plain, String text, int v) {
        String want = plain.work(text);
        CHECK.dueLook(x, text, plain.looked);
        CHECK.due("run of " + text, Check.run(x, v), want);
        if (want.startsWith("throws.")) {
            return false;
        }
        CHECK.due("made() by " + text, x.made(), plain.made);
        return true;
    }

    private static Plain.Lines[] scatter(ArrayText x, Random random) {
        Plain.Lines[] variables = new Plain.Lines[8];
        for (int v = 0; v < 8; v++) {
            int shape = SHAPES[random.nextInt(SHAPES.length)];
            x.shape(v, shape);
            Plain.Lines lines = Plain.Lines.zeros(shape);
            int i = 0;
            for (List<Double> line : lines.lines) {
                for (int j = 0; j < line.size(); j++) {
                    double large = random.nextInt(20) == 0 ? 1e11 : 1;
                    line.set(j, (random.nextInt(41) - 20) * large / 4);
                    x.set(v, i++, line.get(j));
                }
            }
            variables[v] = lines;
        }
        return variables;
    }

    private static String expression(Random random, int depth) {
        int choice = depth == 0 ? 0 : random.nextInt(10);
        if (choice < 2) {
            return part(random, depth);
        }
        if (choice < 7) {
            char sign = "+-*<>=&|,#,#".charAt(random.nextInt(12));
            String left = sign == '#' && random.nextInt(6) > 0 ? measure(random) : part(random, depth);
            return left + sign + expression(random, depth - 1);
        }
        String[] fronts = {"-", "~", "/+", "/*", "/&", "/|", "\\+", "\\*", "\\&", "\\|"};
        return fronts[random.nextInt(fronts.length)] + expression(random, depth - 1);
    }

    private static String measure(Random random) {
        String one = String.valueOf(random.nextInt(26));
        String two = random.nextInt(6) + " " + random.nextInt(7);
        String measure = random.nextBoolean() ? one : two;
        return random.nextInt(5) == 0 ? "(" + measure + ")" : measure;
    }

    private static String part(Random random, int depth) {
        switch (random.nextInt(depth == 0 ? 7 : 9)) {
            case 0:
                return String.valueOf(random.nextInt(13));
            case 1:
                return random.nextInt(10) + " " + random.nextInt(100) + (random.nextBoolean() ? " 3" : "");
            case 2:
                return "i" + (random.nextInt(8) == 0 ? random.nextInt(30) : 1 + random.nextInt(6));
            case 3:
            case 4:
            case 5:
            case 6:
                return String.valueOf((char) ('a' + random.nextInt(8)));
            default:
                return "(" + expression(random, depth - 1) + ")";
        }
    }

    private static String spoiled(String text, Random random) {
        int place = random.nextInt(text.length() + 1);
        String alphabet = "abhijk019 +-*<>=&|,#~/\\()";
        char c = alphabet.charAt(random.nextInt(alphabet.length()));
        int behind = Math.min(text.length(), place + random.nextInt(2));
        return text.substring(0, place) + (random.nextInt(4) == 0 ? "" : c) + text.substring(behind);
    }
}
