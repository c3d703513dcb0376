import java.lang.reflect.Method;
import java.lang.reflect.Modifier;
import java.nio.file.Path;
import java.util.ArrayList;
import java.util.List;
import java.util.TreeSet;
import java.util.regex.Matcher;
import java.util.regex.Pattern;

/** What README.md says of using the class and of its tests: each program, command and row of a table is done. */
public final class ReadmeTest {
    private static final Checks CHECKS = new Checks("ReadmeTest");
    private static final Path TESTS = Path.of("src/test/java");
    private static final Path CLASS = Path.of("src/main/java/ScaledNumeralDesk.java");
    private static final String README = Shell.read(Path.of("README.md"));

    public static void main(String[] args) throws ReflectiveOperationException {
        programAndCommands();
        calls();
        texts();
        operationsOfApply();
        operationsOfAdjust();
        refusals();
        namesOfTests();
        CHECKS.end();
    }

    private static void programAndCommands() {
        Path folder = Shell.newFolder();
        Shell.write(folder.resolve(CLASS), Shell.read(CLASS));
        Shell.write(folder.resolve("Example.java"), block("java", 0));
        for (Path test : Shell.filesIn(TESTS)) {
            Shell.write(folder.resolve(test), Shell.read(test));
        }
        CHECKS.same("what the example prints", printedBy(folder, block("sh", 0)), block("text", 0));
        String alone = printedBy(folder, block("sh", 1));
        CHECKS.same("one test alone ran and printed " + alone, alone.startsWith("TypeTest: "), true);
        Shell.remove(folder);
    }

    private static String printedBy(Path folder, String commands) {
        // What java itself says of its surroundings goes to the errors and is no part of what a program prints.
        Shell.Ending ending = Shell.run(folder, "exec 2>errors\nset -e\n" + commands);
        CHECKS.same("exit code behind " + Shell.read(folder.resolve("errors")), ending.code(), 0);
        return ending.printed();
    }

    private static String block(String language, int number) {
        Matcher block = Pattern.compile("(?s)```" + language + "\n(.*?)```").matcher(README);
        for (int i = 0; i <= number; i++) {
            if (!block.find()) {
                throw new IllegalStateException("README.md has no block " + number + " of " + language);
            }
        }
        return block.group(1);
    }

    /** The rows of the table under a heading, without the two of its head; the cells without their backquotes. */
    private static List<String[]> table(String heading, int due) {
        int start = README.indexOf("\n### " + heading + "\n");
        int next = README.indexOf("\n#", start + 1);
        List<String[]> rows = new ArrayList<>();
        for (String line : README.substring(Math.max(start, 0), next).split("\n")) {
            if (line.startsWith("| ")) {
                String[] cells = line.substring(2, line.length() - 2).split(" \\| ");
                for (int i = 0; i < cells.length; i++) {
                    cells[i] = cells[i].replace("`", "");
                }
                rows.add(cells);
            }
        }
        CHECKS.same("rows of " + heading, rows.size() - 2, due);
        return rows.subList(Math.min(2, rows.size()), rows.size());
    }

    private static void calls() {
        TreeSet<String> told = new TreeSet<>();
        for (String[] row : table("Calls", 16)) {
            told.add(row[0].substring(0, row[0].indexOf('(')) + " " + row[0].split(",").length);
        }
        TreeSet<String> due = new TreeSet<>();
        for (Method method : ScaledNumeralDesk.class.getDeclaredMethods()) {
            if (Modifier.isPublic(method.getModifiers())) {
                due.add(method.getName() + " " + method.getParameterCount());
            }
        }
        CHECKS.same("calls with the number of their parameters", told, due);
    }

    private static void texts() {
        for (String[] row : table("Texts", 13)) {
            ScaledNumeralDesk desk = new ScaledNumeralDesk();
            CHECKS.same("answer to " + row[0], Checks.enter(desk, 0, row[0]), Integer.parseInt(row[2]));
            CHECKS.same("text of " + row[0], Checks.text(desk, 0), row[1]);
        }
    }

    private static void operationsOfApply() {
        String[] names = {"ADD", "SUBTRACT", "MULTIPLY", "DIVIDE", "QUOTIENT", "REMAINDER"};
        for (String[] row : table("Operations of apply", names.length)) {
            ScaledNumeralDesk desk = new ScaledNumeralDesk();
            Checks.enter(desk, 0, row[3]);
            Checks.enter(desk, 1, row[4]);
            int op = Integer.parseInt(row[0]);
            CHECKS.same("operation " + op, row[1], names[op]);
            CHECKS.same("answer of " + row[1], desk.apply(op, 2, 0, 1), 0);
            CHECKS.same("result of " + row[1], Checks.text(desk, 2), row[5]);
        }
    }

    private static void operationsOfAdjust() {
        String[] names = {"ROUND", "TRUNCATE", "CEILING", "FLOOR", "NEGATE", "TRIM", "ROOT"};
        for (String[] row : table("Operations of adjust", names.length)) {
            ScaledNumeralDesk desk = new ScaledNumeralDesk();
            Checks.enter(desk, 0, row[3]);
            int op = Integer.parseInt(row[0]);
            CHECKS.same("operation " + op, row[1], names[op]);
            CHECKS.same("answer of " + row[1], desk.adjust(op, 2, 0, Integer.parseInt(row[4])), 0);
            CHECKS.same("result of " + row[1], Checks.text(desk, 2), row[5]);
        }
    }

    private static void refusals() throws ReflectiveOperationException {
        for (String[] row : table("Refusals", 17)) {
            ScaledNumeralDesk desk = new ScaledNumeralDesk();
            Object answer = null;
            for (String call : row[0].split("; ")) {
                answer = answer(desk, call);
            }
            CHECKS.same("answer of " + row[0], String.valueOf(answer), row[1]);
        }
    }

    private static Object answer(ScaledNumeralDesk desk, String call) throws ReflectiveOperationException {
        String name = call.substring(0, call.indexOf('('));
        String[] written = call.substring(name.length() + 1, call.length() - 1).split(", ");
        if (name.equals("put")) {
            return Checks.enter(desk, Integer.parseInt(written[0]), written[1].replace("\"", ""));
        }
        if (call.equals("type('\\t')")) {
            return desk.type('\t');
        }
        Object[] arguments = new Object[written.length];
        Class<?>[] types = new Class<?>[written.length];
        for (int i = 0; i < written.length; i++) {
            arguments[i] = Integer.parseInt(written[i]);
            types[i] = int.class;
        }
        return ScaledNumeralDesk.class.getMethod(name, types).invoke(desk, arguments);
    }

    private static void namesOfTests() {
        TreeSet<String> due = new TreeSet<>();
        for (Path file : Shell.filesIn(TESTS)) {
            due.add(file.getFileName().toString().replace(".java", ""));
        }
        TreeSet<String> told = new TreeSet<>();
        Matcher name = Pattern.compile("`([A-Z]\\w+)`").matcher(README.substring(README.indexOf("\n- `")));
        while (name.find()) {
            told.add(name.group(1));
        }
        CHECKS.same("classes of the tests", told, due);
    }
}
