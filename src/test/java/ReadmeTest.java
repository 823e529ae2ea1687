import java.io.File;
import java.io.IOException;
import java.lang.reflect.Method;
import java.lang.reflect.Modifier;
import java.nio.file.Files;
import java.nio.file.Path;
import java.util.List;

/** README.md: its examples hold, and it names every call of the class and every test of the project. */
public final class ReadmeTest {
    private static final Check CHECK = new Check();

    /** Fewer rows than these mean that the tables were not found, and nothing was compared. */
    private static final int FEWEST_RESULTS = 13;
    private static final int FEWEST_EXCEPTIONS = 8;

    public static void main(String[] args) throws IOException {
        List<String> lines = Files.readAllLines(Path.of("README.md"));
        firstExample(lines);
        tables(lines);
        namesEveryCall(lines);
        namesEveryTest(lines);
        CHECK.end();
    }

    /** Each line of the first example that makes a call, with what its comment tells. */
    private static void firstExample(List<String> lines) {
        ArrayText x = new ArrayText();
        stands(lines, "x.shape(0, 4); ", x.shape(0, 4), "a row of four zeros", true);
        stands(lines, "x.set(0, 1, 2.5);", x.set(0, 1, 2.5), "", true);
        stands(lines, "x.put(1, 2.0); ", x.put(1, 2.0), "a number alone", true);
        stands(lines, "x.write(421617806127L); ", x.write(421617806127L), "\"/+a*b\"", "/+a*b".length());
        stands(lines, "int shape = x.look(); ", x.look(), ": 0, a number alone", 0);
        stands(lines, "int elements = x.run(2); ", x.run(2), ": 1 element", 1);
        stands(lines, "double sum = x.at(2, 0); ", x.at(2, 0), "// 5.0", 5.0);
        stands(lines, "int made = x.made(); ", x.made(), ": 1", 1);
        CHECK.due("the characters of /+a*b", Check.packed("/+a*b"), 421617806127L);
    }

    private static void stands(List<String> lines, String code, Object got, String comment, Object want) {
        boolean found = lines.stream().anyMatch(line -> line.startsWith(code) && line.endsWith(comment));
        CHECK.due("README.md has a line " + code + " .. " + comment, found, true);
        CHECK.due(code, got, want);
    }

    private static void tables(List<String> lines) {
        int results = 0;
        int exceptions = 0;
        for (String line : lines) {
            String[] cells = line.split("\\|");
            if (cells.length == 5 && cells[1].startsWith(" `")) {
                result(cells);
                results++;
            } else if (cells.length == 4 && cells[2].endsWith("Exception ")) {
                exception(cells);
                exceptions++;
            }
        }
        CHECK.due("rows of results are fewer than " + FEWEST_RESULTS, results < FEWEST_RESULTS, false);
        CHECK.due("rows of exceptions are fewer than " + FEWEST_EXCEPTIONS, exceptions < FEWEST_EXCEPTIONS, false);
    }

    private static void result(String[] cells) {
        ArrayText x = described();
        String shape = cells[2].trim();
        CHECK.dueLook(x, textIn(cells[1]), shape);
        CHECK.dueResult(x, textIn(cells[1]), shape + ": " + cells[3].trim());
        CHECK.due("made() by " + textIn(cells[1]), String.valueOf(x.made()), cells[4].trim());
    }

    private static void exception(String[] cells) {
        String thrown = "throws." + cells[2].trim();
        CHECK.dueRun(described(), textIn(cells[1]), 7, thrown);
        if (!thrown.equals(Check.RANGE)) {
            CHECK.dueLook(described(), textIn(cells[1]), thrown);
        }
    }

    private static String textIn(String cell) {
        return cell.trim().replace("`", "");
    }

    /** The variables as README.md tells them above its tables. */
    private static ArrayText described() {
        ArrayText x = new ArrayText();
        Check.fill(x, 0, 3, 1, 2, 3);
        Check.fill(x, 1, 67, 1, 2, 3, 4, 5, 6);
        x.put(2, 10);
        return x;
    }

    private static void namesEveryCall(List<String> lines) {
        for (Method method : ArrayText.class.getDeclaredMethods()) {
            if (Modifier.isPublic(method.getModifiers())) {
                String start = "`" + method.getName() + "(";
                CHECK.due("README.md has a row with " + start,
                        lines.stream().anyMatch(line -> line.startsWith("| ") && line.contains(start)), true);
            }
        }
    }

    private static void namesEveryTest(List<String> lines) {
        String[] files = new File("src/test/java").list();
        CHECK.due("src/test/java is there", files != null && files.length > 0, true);
        for (String file : files == null ? new String[0] : files) {
            if (file.endsWith("Test.java")) {
                String name = file.substring(0, file.length() - ".java".length());
                String row = "\\| ([A-Za-z]+, )*" + name + "(, [A-Za-z]+)* \\|.*";
                CHECK.due("README.md has a row with " + name, lines.stream().anyMatch(line -> line.matches(row)), true);
            }
        }
    }
}
