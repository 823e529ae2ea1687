import java.util.ArrayList;
import java.util.Collections;
import java.util.List;
import java.util.Random;
import java.util.regex.Matcher;
import java.util.regex.Pattern;

/**
 * Promises 10 to 12 against a second way of working: Plain takes the text apart by its outermost sign and answers
 * from the words of the document alone. The texts are made from a fixed seed, so that every run is the same.
 */
public final class RandomTest {
    private static final Check CHECK = new Check();
    private static final int OBJECTS = 15000;
    private static final int TEXTS_AN_OBJECT = 8;
    private static final int[] SHAPES = {0, 0, 1, 2, 3, 4, 6, 12, 24, 33, 34, 65, 66, 67, 98, 99, 134, 56, 769};

    public static void main(String[] args) {
        Random random = new Random(20261116);
        int good = 0;
        for (int k = 0; k < OBJECTS; k++) {
            good += useOne(random);
        }
        CHECK.due("there were many good runs", good > OBJECTS, true);
        CHECK.end();
    }

    /**
     * Makes an object and runs texts on it, each into another variable, so that the state at the end tells all
     * results within 512 calls; how many runs threw nothing.
     */
    private static int useOne(Random random) {
        ArrayText x = new ArrayText();
        Lines[] variables = scatter(x, random);
        int first = random.nextInt(8);
        int good = 0;
        int made = 0;
        for (int k = 0; k < TEXTS_AN_OBJECT; k++) {
            String whole = expression(random, 4);
            String text = k % 3 == 0 ? spoiled(whole, random) : whole;
            int v = (first + k) % 8;
            Plain plain = new Plain(variables);
            if (text.length() <= 40 && compare(x, plain, text, v)) {
                variables[v] = plain.result;
                made = plain.made;
                good++;
            }
        }
        StringBuilder want = new StringBuilder();
        for (Lines variable : variables) {
            want.append(variable.told()).append("; ");
        }
        want.append("made ").append(made).append(", runs ").append(good);
        CHECK.due("state after all texts", Check.state(x), want.toString());
        return good;
    }

    private static boolean compare(ArrayText x, Plain plain, String text, int v) {
        String want = plain.work(text);
        CHECK.dueLook(x, text, plain.looked);
        CHECK.due("run of " + text, Check.run(x, v), want);
        if (want.startsWith("throws.")) {
            return false;
        }
        CHECK.due("made() by " + text, x.made(), plain.made);
        return true;
    }

    private static Lines[] scatter(ArrayText x, Random random) {
        Lines[] variables = new Lines[8];
        for (int v = 0; v < 8; v++) {
            int shape = SHAPES[random.nextInt(SHAPES.length)];
            x.shape(v, shape);
            Lines lines = Lines.zeros(shape);
            int i = 0;
            for (List<Double> line : lines.lines) {
                for (int j = 0; j < line.size(); j++) {
                    double large = random.nextInt(20) == 0 ? 1e11 : 1;
                    line.set(j, (random.nextInt(41) - 20) * large / 4);
                    x.set(v, i++, line.get(j));
                }
            }
            variables[v] = lines;
        }
        return variables;
    }

    private static String expression(Random random, int depth) {
        int choice = depth == 0 ? 0 : random.nextInt(10);
        if (choice < 2) {
            return part(random, depth);
        }
        if (choice < 7) {
            char sign = "+-*<>=&|,#,#".charAt(random.nextInt(12));
            String left = sign == '#' && random.nextInt(6) > 0 ? measure(random) : part(random, depth);
            return left + sign + expression(random, depth - 1);
        }
        String[] fronts = {"-", "~", "/+", "/*", "/&", "/|", "\\+", "\\*", "\\&", "\\|"};
        return fronts[random.nextInt(fronts.length)] + expression(random, depth - 1);
    }

    private static String measure(Random random) {
        String one = String.valueOf(random.nextInt(26));
        String two = random.nextInt(6) + " " + random.nextInt(7);
        String measure = random.nextBoolean() ? one : two;
        return random.nextInt(5) == 0 ? "(" + measure + ")" : measure;
    }

    private static String part(Random random, int depth) {
        switch (random.nextInt(depth == 0 ? 7 : 9)) {
            case 0:
                return String.valueOf(random.nextInt(13));
            case 1:
                return random.nextInt(10) + " " + random.nextInt(100) + (random.nextBoolean() ? " 3" : "");
            case 2:
                return "i" + (random.nextInt(8) == 0 ? random.nextInt(30) : 1 + random.nextInt(6));
            case 3:
            case 4:
            case 5:
            case 6:
                return String.valueOf((char) ('a' + random.nextInt(8)));
            default:
                return "(" + expression(random, depth - 1) + ")";
        }
    }

    private static String spoiled(String text, Random random) {
        int place = random.nextInt(text.length() + 1);
        String alphabet = "abhijk019 +-*<>=&|,#~/\\()";
        char c = alphabet.charAt(random.nextInt(alphabet.length()));
        int behind = Math.min(text.length(), place + random.nextInt(2));
        return text.substring(0, place) + (random.nextInt(4) == 0 ? "" : c) + text.substring(behind);
    }

    /** Stops the work with one of the document's four errors. */
    private static final class Stop extends Exception {
        private static final long serialVersionUID = 1L;

        Stop(String name) {
            super("throws." + name);
        }
    }

    /** Works a text out once; elements out of range are only remembered. */
    private static final class Plain {
        private static final Pattern SIMPLE_PART = Pattern
                .compile("^(?:[a-h]|i\\d{1,4}(?!\\d)|\\d{1,4}(?!\\d)(?: \\d{1,4}(?!\\d))*)");
        private static final String TEXT = "IllegalArgumentException";
        private static final String SHAPE = "IllegalStateException";
        private static final String SIZE = "UnsupportedOperationException";

        private final Lines[] variables;
        private boolean outOfRange = false;
        int made = 0;
        String looked = "";
        Lines result = null;

        Plain(Lines[] variables) {
            this.variables = variables;
        }

        String work(String text) {
            try {
                requireExpression(text);
                result = value(text);
                looked = String.valueOf(result.shape());
                String bare = bare(text);
                made += isMaker(bare) ? 0 : 1;
                return outOfRange ? "throws.ArithmeticException" : String.valueOf(result.flat().size());
            } catch (Stop stop) {
                looked = stop.getMessage();
                return stop.getMessage();
            }
        }

        private static String bare(String text) {
            String bare = text;
            while (bare.startsWith("(") && partEnd(bare) == bare.length()) {
                bare = bare.substring(1, bare.length() - 1);
            }
            return bare;
        }

        private static boolean isMaker(String bare) {
            char c = bare.charAt(0);
            if (c == '~' || c == '/' || c == '\\') {
                return true;
            }
            int end = c == '-' ? bare.length() : partEnd(bare);
            return end < bare.length() && bare.charAt(end) == ',';
        }

        /** Where the part that the text begins with ends, or -1 if it begins with none. */
        private static int partEnd(String text) {
            if (text.startsWith("(")) {
                int open = 0;
                for (int k = 0; k < text.length(); k++) {
                    open += text.charAt(k) == '(' ? 1 : text.charAt(k) == ')' ? -1 : 0;
                    if (open == 0) {
                        return k + 1;
                    }
                }
                return -1;
            }
            Matcher matcher = SIMPLE_PART.matcher(text);
            return matcher.find() ? matcher.end() : -1;
        }

        private static void requireExpression(String text) throws Stop {
            if (text.matches("(?s)^(?:[-~]|[/\\\\][+*&|]).*")) {
                requireExpression(text.substring(text.charAt(0) == '-' || text.charAt(0) == '~' ? 1 : 2));
                return;
            }
            int end = partEnd(text);
            if (end < 0) {
                throw new Stop(TEXT);
            }
            if (text.startsWith("(")) {
                requireExpression(text.substring(1, end - 1));
            }
            if (end < text.length()) {
                if ("+-*<>=&|,#".indexOf(text.charAt(end)) < 0) {
                    throw new Stop(TEXT);
                }
                requireExpression(text.substring(end + 1));
            }
        }

        private Lines value(String text) throws Stop {
            switch (text.charAt(0)) {
                case '-':
                    return checked(signed('*', value(text.substring(1)), Lines.alone(-1)));
                case '~':
                    made++;
                    return value(text.substring(1)).turned();
                case '/':
                    made++;
                    return reduced(text.charAt(1), value(text.substring(2)));
                case '\\':
                    made++;
                    return running(text.charAt(1), value(text.substring(2)));
                default:
                    int end = partEnd(text);
                    return end == text.length() ? partValue(text)
                            : signValue(text.substring(0, end), text.charAt(end), text.substring(end + 1));
            }
        }

        private Lines partValue(String part) throws Stop {
            char c = part.charAt(0);
            if (c == '(') {
                return value(part.substring(1, part.length() - 1));
            }
            if (c == 'i') {
                List<Double> row = new ArrayList<>();
                for (int k = 0; k < Integer.parseInt(part.substring(1)); k++) {
                    row.add((double) k);
                }
                return sized(Lines.row(row));
            }
            if (c >= 'a' && c <= 'h') {
                return variables[c - 'a'];
            }
            List<Double> numbers = new ArrayList<>();
            for (String number : part.split(" ")) {
                numbers.add(Double.parseDouble(number));
            }
            return numbers.size() == 1 ? Lines.alone(numbers.get(0)) : Lines.row(numbers);
        }

        private Lines signValue(String leftText, char sign, String rightText) throws Stop {
            Lines right = value(rightText);
            Lines left = partValue(leftText);
            if (sign == ',') {
                made++;
                if (left.rank == 2 || right.rank == 2) {
                    throw new Stop(SHAPE);
                }
                List<Double> row = new ArrayList<>(left.flat());
                row.addAll(right.flat());
                return sized(Lines.row(row));
            }
            if (sign == '#') {
                if (!bare(leftText).matches("\\d+( \\d+)?")) {
                    throw new Stop(SHAPE);
                }
                return anew(left.flat(), right.flat());
            }
            if (left.rank != 0 && right.rank != 0 && left.shape() != right.shape()) {
                throw new Stop(SHAPE);
            }
            return checked(signed(sign, left, right));
        }

        private Lines anew(List<Double> measure, List<Double> from) throws Stop {
            int lines = measure.size() == 1 ? 1 : measure.get(0).intValue();
            int length = measure.get(measure.size() - 1).intValue();
            if (lines == 0 || length == 0 || (long) lines * length > 24) {
                throw new Stop(SIZE);
            }
            if (lines * length < from.size()) {
                throw new Stop(SHAPE);
            }
            Lines result = new Lines(measure.size());
            for (int i = 0; i < lines; i++) {
                List<Double> line = new ArrayList<>();
                for (int j = 0; j < length; j++) {
                    line.add(from.get((i * length + j) % from.size()));
                }
                result.lines.add(line);
            }
            return result;
        }

        private static Lines sized(Lines row) throws Stop {
            if (row.flat().isEmpty() || row.flat().size() > 24) {
                throw new Stop(SIZE);
            }
            return row;
        }

        private Lines checked(Lines lines) {
            for (double x : lines.flat()) {
                outOfRange |= x > 1e12 || x < -1e12;
            }
            return lines;
        }

        private static Lines signed(char sign, Lines left, Lines right) {
            Lines form = left.rank == 0 ? right : left;
            Lines result = new Lines(form.rank);
            for (int i = 0; i < form.lines.size(); i++) {
                List<Double> line = new ArrayList<>();
                for (int j = 0; j < form.lines.get(i).size(); j++) {
                    double x = left.rank == 0 ? left.lines.get(0).get(0) : left.lines.get(i).get(j);
                    double y = right.rank == 0 ? right.lines.get(0).get(0) : right.lines.get(i).get(j);
                    line.add(signed(sign, x, y));
                }
                result.lines.add(line);
            }
            return result;
        }

        private static double signed(char sign, double x, double y) {
            return switch (sign) {
                case '+' -> x + y;
                case '-' -> x - y;
                case '*' -> x * y;
                case '<' -> x < y ? 1 : 0;
                case '>' -> x > y ? 1 : 0;
                case '=' -> x == y ? 1 : 0;
                case '&' -> Math.min(x, y);
                default -> Math.max(x, y);
            };
        }

        private double reduction(char sign, List<Double> elements) {
            double soFar = elements.get(0);
            for (double x : elements.subList(1, elements.size())) {
                soFar = signed(sign, soFar, x);
                outOfRange |= soFar > 1e12 || soFar < -1e12;
            }
            return soFar;
        }

        private Lines reduced(char sign, Lines from) {
            if (from.rank < 2) {
                return Lines.alone(reduction(sign, from.lines.get(0)));
            }
            List<Double> row = new ArrayList<>();
            for (List<Double> line : from.lines) {
                row.add(reduction(sign, line));
            }
            return Lines.row(row);
        }

        private Lines running(char sign, Lines from) {
            Lines result = new Lines(from.rank);
            for (List<Double> line : from.lines) {
                List<Double> runs = new ArrayList<>();
                for (int k = 0; k < line.size(); k++) {
                    runs.add(reduction(sign, line.subList(0, k + 1)));
                }
                result.lines.add(runs);
            }
            return result;
        }
    }

    /** An array as a list of lines, of rank 0 (a number alone), 1 (a row) or 2 (a table). */
    private static final class Lines {
        final int rank;
        final List<List<Double>> lines = new ArrayList<>();

        Lines(int rank) {
            this.rank = rank;
        }

        static Lines alone(double x) {
            Lines alone = new Lines(0);
            alone.lines.add(List.of(x));
            return alone;
        }

        static Lines row(List<Double> elements) {
            Lines row = new Lines(1);
            row.lines.add(elements);
            return row;
        }

        static Lines zeros(int shape) {
            Lines result = new Lines(shape == 0 ? 0 : shape < 32 ? 1 : 2);
            int many = result.rank == 2 ? shape / 32 : 1;
            int length = shape == 0 ? 1 : shape % 32;
            for (int i = 0; i < many; i++) {
                result.lines.add(new ArrayList<>(Collections.nCopies(length, 0.0)));
            }
            return result;
        }

        int shape() {
            return rank == 0 ? 0 : rank == 1 ? lines.get(0).size() : 32 * lines.size() + lines.get(0).size();
        }

        List<Double> flat() {
            List<Double> flat = new ArrayList<>();
            lines.forEach(flat::addAll);
            return flat;
        }

        Lines turned() {
            if (rank < 2) {
                return this;
            }
            Lines result = new Lines(2);
            for (int j = 0; j < lines.get(0).size(); j++) {
                List<Double> line = new ArrayList<>();
                for (List<Double> from : lines) {
                    line.add(from.get(j));
                }
                result.lines.add(line);
            }
            return result;
        }

        /** As Check.array tells it. */
        String told() {
            StringBuilder told = new StringBuilder().append(shape()).append(':');
            for (double x : flat()) {
                told.append(' ').append(Check.element(x));
            }
            return told.toString();
        }
    }
}
