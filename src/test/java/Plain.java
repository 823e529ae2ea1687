import java.util.ArrayList;
import java.util.Collections;
import java.util.List;
import java.util.regex.Matcher;
import java.util.regex.Pattern;

/**
 * A second way of working: takes the text apart by its outermost sign and answers from the words of the document
 * alone. Works a text out once; elements out of range are only remembered.
 */
final class Plain {
    private static final Pattern SIMPLE_PART = Pattern
            .compile("^(?:[a-h]|i\\d{1,4}(?!\\d)|\\d{1,4}(?!\\d)(?: \\d{1,4}(?!\\d))*)");
    private static final String TEXT = "IllegalArgumentException";
    private static final String SHAPE = "IllegalStateException";
    private static final String SIZE = "UnsupportedOperationException";

    private final Lines[] variables;
    private boolean outOfRange = false;
    int made = 0;
    String looked = "";
    Lines result = null;

    Plain(Lines[] variables) {
        this.variables = variables;
    }

    String work(String text) {
        try {
            requireExpression(text);
            result = value(text);
            looked = String.valueOf(result.shape());
            String bare = bare(text);
            made += isMaker(bare) ? 0 : 1;
            return outOfRange ? "throws.ArithmeticException" : String.valueOf(result.flat().size());
        } catch (Stop stop) {
            looked = stop.getMessage();
            return stop.getMessage();
        }
    }

    private static String bare(String text) {
        String bare = text;
        while (bare.startsWith("(") && partEnd(bare) == bare.length()) {
            bare = bare.substring(1, bare.length() - 1);
        }
        return bare;
    }

    private static boolean isMaker(String bare) {
        char c = bare.charAt(0);
        if (c == '~' || c == '/' || c == '\\') {
            return true;
        }
        int end = c == '-' ? bare.length() : partEnd(bare);
        return end < bare.length() && bare.charAt(end) == ',';
    }

    /** Where the part that the text begins with ends, or -1 if it begins with none. */
    private static int partEnd(String text) {
        if (text.startsWith("(")) {
            int open = 0;
            for (int k = 0; k < text.length(); k++) {
                open += text.charAt(k) == '(' ? 1 : text.charAt(k) == ')' ? -1 : 0;
                if (open == 0) {
                    return k + 1;
                }
            }
            return -1;
        }
        Matcher matcher = SIMPLE_PART.matcher(text);
        return matcher.find() ? matcher.end() : -1;
    }

    private static void requireExpression(String text) throws Stop {
        if (text.matches("(?s)^(?:[-~]|[/\\\\][+*&|]).*")) {
            requireExpression(text.substring(text.charAt(0) == '-' || text.charAt(0) == '~' ? 1 : 2));
            return;
        }
        int end = partEnd(text);
        if (end < 0) {
            throw new Stop(TEXT);
        }
        if (text.startsWith("(")) {
            requireExpression(text.substring(1, end - 1));
        }
        if (end < text.length()) {
            if ("+-*<>=&|,#".indexOf(text.charAt(end)) < 0) {
                throw new Stop(TEXT);
            }
            requireExpression(text.substring(end + 1));
        }
    }

    private Lines value(String text) throws Stop {
        switch (text.charAt(0)) {
            case '-':
                return checked(signed('*', value(text.substring(1)), Lines.alone(-1)));
            case '~':
                made++;
                return value(text.substring(1)).turned();
            case '/':
                made++;
                return reduced(text.charAt(1), value(text.substring(2)));
            case '\\':
                made++;
                return running(text.charAt(1), value(text.substring(2)));
            default:
                int end = partEnd(text);
                return end == text.length() ? partValue(text)
                        : signValue(text.substring(0, end), text.charAt(end), text.substring(end + 1));
        }
    }

    private Lines partValue(String part) throws Stop {
        char c = part.charAt(0);
        if (c == '(') {
            return value(part.substring(1, part.length() - 1));
        }
        if (c == 'i') {
            List<Double> row = new ArrayList<>();
            for (int k = 0; k < Integer.parseInt(part.substring(1)); k++) {
                row.add((double) k);
            }
            return sized(Lines.row(row));
        }
        if (c >= 'a' && c <= 'h') {
            return variables[c - 'a'];
        }
        List<Double> numbers = new ArrayList<>();
        for (String number : part.split(" ")) {
            numbers.add(Double.parseDouble(number));
        }
        return numbers.size() == 1 ? Lines.alone(numbers.get(0)) : Lines.row(numbers);
    }

    private Lines signValue(String leftText, char sign, String rightText) throws Stop {
        Lines right = value(rightText);
        Lines left = partValue(leftText);
        if (sign == ',') {
            made++;
            if (left.rank == 2 || right.rank == 2) {
                throw new Stop(SHAPE);
            }
            List<Double> row = new ArrayList<>(left.flat());
            row.addAll(right.flat());
            return sized(Lines.row(row));
        }
        if (sign == '#') {
            if (!bare(leftText).matches("\\d+( \\d+)?")) {
                throw new Stop(SHAPE);
            }
            return anew(left.flat(), right.flat());
        }
        if (left.rank != 0 && right.rank != 0 && left.shape() != right.shape()) {
            throw new Stop(SHAPE);
        }
        return checked(signed(sign, left, right));
    }

    private Lines anew(List<Double> measure, List<Double> from) throws Stop {
        int lines = measure.size() == 1 ? 1 : measure.get(0).intValue();
        int length = measure.get(measure.size() - 1).intValue();
        if (lines == 0 || length == 0 || (long) lines * length > 24) {
            throw new Stop(SIZE);
        }
        if (lines * length < from.size()) {
            throw new Stop(SHAPE);
        }
        Lines result = new Lines(measure.size());
        for (int i = 0; i < lines; i++) {
            List<Double> line = new ArrayList<>();
            for (int j = 0; j < length; j++) {
                line.add(from.get((i * length + j) % from.size()));
            }
            result.lines.add(line);
        }
        return result;
    }

    private static Lines sized(Lines row) throws Stop {
        if (row.flat().isEmpty() || row.flat().size() > 24) {
            throw new Stop(SIZE);
        }
        return row;
    }

    private Lines checked(Lines lines) {
        for (double x : lines.flat()) {
            outOfRange |= x > 1e12 || x < -1e12;
        }
        return lines;
    }

    private static Lines signed(char sign, Lines left, Lines right) {
        Lines form = left.rank == 0 ? right : left;
        Lines result = new Lines(form.rank);
        for (int i = 0; i < form.lines.size(); i++) {
            List<Double> line = new ArrayList<>();
            for (int j = 0; j < form.lines.get(i).size(); j++) {
                double x = left.rank == 0 ? left.lines.get(0).get(0) : left.lines.get(i).get(j);
                double y = right.rank == 0 ? right.lines.get(0).get(0) : right.lines.get(i).get(j);
                line.add(signed(sign, x, y));
            }
            result.lines.add(line);
        }
        return result;
    }

    private static double signed(char sign, double x, double y) {
        return switch (sign) {
            case '+' -> x + y;
            case '-' -> x - y;
            case '*' -> x * y;
            case '<' -> x < y ? 1 : 0;
            case '>' -> x > y ? 1 : 0;
            case '=' -> x == y ? 1 : 0;
            case '&' -> Math.min(x, y);
            default -> Math.max(x, y);
        };
    }

    private double reduction(char sign, List<Double> elements) {
        double soFar = elements.get(0);
        for (double x : elements.subList(1, elements.size())) {
            soFar = signed(sign, soFar, x);
            outOfRange |= soFar > 1e12 || soFar < -1e12;
        }
        return soFar;
    }

    private Lines reduced(char sign, Lines from) {
        if (from.rank < 2) {
            return Lines.alone(reduction(sign, from.lines.get(0)));
        }
        List<Double> row = new ArrayList<>();
        for (List<Double> line : from.lines) {
            row.add(reduction(sign, line));
        }
        return Lines.row(row);
    }

    private Lines running(char sign, Lines from) {
        Lines result = new Lines(from.rank);
        for (List<Double> line : from.lines) {
            List<Double> runs = new ArrayList<>();
            for (int k = 0; k < line.size(); k++) {
                runs.add(reduction(sign, line.subList(0, k + 1)));
            }
            result.lines.add(runs);
        }
        return result;
    }

    /** An array as a list of lines, of rank 0 (a number alone), 1 (a row) or 2 (a table). */
    static final class Lines {
        final int rank;
        final List<List<Double>> lines = new ArrayList<>();

        Lines(int rank) {
            this.rank = rank;
        }

        static Lines alone(double x) {
            Lines alone = new Lines(0);
            alone.lines.add(List.of(x));
            return alone;
        }

        static Lines row(List<Double> elements) {
            Lines row = new Lines(1);
            row.lines.add(elements);
            return row;
        }

        static Lines zeros(int shape) {
            Lines result = new Lines(shape == 0 ? 0 : shape < 32 ? 1 : 2);
            int many = result.rank == 2 ? shape / 32 : 1;
            int length = shape == 0 ? 1 : shape % 32;
            for (int i = 0; i < many; i++) {
                result.lines.add(new ArrayList<>(Collections.nCopies(length, 0.0)));
            }
            return result;
        }

        int shape() {
            return rank == 0 ? 0 : rank == 1 ? lines.get(0).size() : 32 * lines.size() + lines.get(0).size();
        }

        List<Double> flat() {
            List<Double> flat = new ArrayList<>();
            lines.forEach(flat::addAll);
            return flat;
        }

        Lines turned() {
            if (rank < 2) {
                return this;
            }
            Lines result = new Lines(2);
            for (int j = 0; j < lines.get(0).size(); j++) {
                List<Double> line = new ArrayList<>();
                for (List<Double> from : lines) {
                    line.add(from.get(j));
                }
                result.lines.add(line);
            }
            return result;
        }

        /** As Check.array tells it. */
        String told() {
            StringBuilder told = new StringBuilder().append(shape()).append(':');
            for (double x : flat()) {
                told.append(' ').append(Check.element(x));
            }
            return told.toString();
        }
    }

    /** Stops the work with one of the document's four errors. */
    private static final class Stop extends Exception {
        private static final long serialVersionUID = 1L;

        Stop(String name) {
            super("throws." + name);
        }
    }
}
