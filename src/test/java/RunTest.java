import java.nio.file.Path;
import java.util.ArrayList;
import java.util.List;
import java.util.concurrent.CompletableFuture;

/**
 * What README.md says of .ci/run, on small projects that are made for it: it passes when all is right, and refuses
 * each one that has something wrong. These projects have not this test, so the script does not start itself again.
 */
public final class RunTest {
    private static final Checks CHECKS = new Checks("RunTest");
    private static final Path CLASS = Path.of("src/main/java/ScaledNumeralDesk.java");
    private static final Path TESTS = Path.of("src/test/java");
    private static final String GIVEN =
            "public final class GIVEN { public static void main(String[] a) {"
            + " System.out.println(new ScaledNumeralDesk().length(0)); System.exit(CODE); } }";

    private final Path folder = Shell.newFolder();
    private final Path project = folder.resolve("main");
    private final Path given = folder.resolve("shared/tests");

    public static void main(String[] args) {
        CHECKS.same(".ci/run can be executed", Path.of(".ci/run").toFile().canExecute(), true);
        List<CompletableFuture<Void>> cases = new ArrayList<>();
        for (Runnable part : new Runnable[] {
            RunTest::right, RunTest::wrongClass, RunTest::wrongOwnTest, RunTest::throwingOwnTest,
            RunTest::ownTestThatDoesNotCompile, RunTest::wrongGivenTest, RunTest::givenTestThatDoesNotCompile,
            RunTest::noOwnTest, RunTest::noGivenTest, RunTest::warnings}) {
            cases.add(CompletableFuture.runAsync(part));
        }
        cases.forEach(CompletableFuture::join);
        CHECKS.end();
    }

    private RunTest() {
        Shell.write(project.resolve(".ci/run"), Shell.read(Path.of(".ci/run")));
        project.resolve(".ci/run").toFile().setExecutable(true);
        Shell.write(project.resolve(CLASS), Shell.read(CLASS));
        copyTest("Checks");
        copyTest("TypeTest");
        give("First", 0);
    }

    private void copyTest(String name) {
        Path file = TESTS.resolve(name + ".java");
        Shell.write(project.resolve(file), Shell.read(file));
    }

    private void give(String name, int code) {
        String text = GIVEN.replace("GIVEN", name.substring(name.lastIndexOf('/') + 1)).replace("CODE", "" + code);
        Shell.write(given.resolve(name + ".java"), text);
    }

    private void own(String name, String body) {
        Shell.write(project.resolve(TESTS).resolve(name + ".java"),
                "public final class " + name + " { public static void main(String[] a) { " + body + " } }");
    }

    private void ends(String what, boolean passes, String... told) {
        Shell.Ending ending = Shell.run(Path.of("/"), "'" + project.resolve(".ci/run") + "'");
        synchronized (CHECKS) {
            CHECKS.same(what + ": passes", ending.code() == 0, passes);
            for (String line : told) {
                CHECKS.same(what + ": tells '" + line + "' in " + ending, ending.printed().contains(line), true);
            }
        }
        Shell.remove(folder);
    }

    private static void right() {
        RunTest run = new RunTest();
        run.give("deeper/Second", 0);
        run.ends("all right", true, "== TypeTest", "== First", "== Second", "3 passed, 0 failed");
    }

    private static void wrongClass() {
        RunTest run = new RunTest();
        Shell.write(run.project.resolve(CLASS), Shell.read(CLASS).replace("c > 126", "c > 127"));
        run.ends("a broken promise", false, "FAILED: TypeTest", "1 passed, 1 failed");
    }

    private static void wrongOwnTest() {
        RunTest run = new RunTest();
        run.own("WrongTest", "System.exit(1);");
        run.ends("a test that fails", false, "FAILED: WrongTest", "2 passed, 1 failed");
    }

    private static void throwingOwnTest() {
        RunTest run = new RunTest();
        run.own("ThrowingTest", "throw new IllegalStateException();");
        run.ends("a test that throws", false, "FAILED: ThrowingTest", "2 passed, 1 failed");
    }

    private static void ownTestThatDoesNotCompile() {
        RunTest run = new RunTest();
        run.own("OddTest", "new ScaledNumeralDesk().clear();");
        run.ends("a test that does not compile", false, "the project does not compile");
    }

    private static void wrongGivenTest() {
        RunTest run = new RunTest();
        run.give("deeper/Second", 1);
        run.ends("a given test that fails", false, "FAILED: Second", "2 passed, 1 failed");
    }

    private static void givenTestThatDoesNotCompile() {
        RunTest run = new RunTest();
        Shell.write(run.given.resolve("Second.java"), "public final class Second { int x = \"\"; }");
        run.ends("a given test that does not compile", false, "FAILED to compile: ../shared/tests/Second.java",
                "2 passed, 1 failed");
    }

    private static void noOwnTest() {
        RunTest run = new RunTest();
        run.project.resolve(TESTS).resolve("TypeTest.java").toFile().delete();
        run.ends("no test of its own", false, "no test in src/test/java");
    }

    private static void noGivenTest() {
        RunTest run = new RunTest();
        run.given.resolve("First.java").toFile().delete();
        run.ends("no given test", false, "no test under ../shared/tests");
    }

    private static void warnings() {
        RunTest run = new RunTest();
        Shell.write(run.project.resolve(CLASS),
                Shell.read(CLASS).replaceFirst("\n}\\s*$", "\n    private java.util.List old;\n}\n"));
        run.ends("a class that javac warns of", false, "the project does not compile");
    }
}
