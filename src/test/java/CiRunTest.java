import java.io.IOException;

/** The script .ci/run passes a clean checkout, and fails where a test fails or cannot be run. */
public final class CiRunTest {
    private static final String FAILING = """
            public final class %s {
                public static void main(String[] args) {
                    System.exit(1);
                }
            }
            """;

    public static void main(String[] args) throws IOException, InterruptedException {
        passing();
        refused("a test of the project that fails", "main/src/test/java/FailingTest.java",
                FAILING.formatted("FailingTest"), "WRONG FailingTest");
        refused("a shared test that fails", "shared/tests/Failing.java",
                FAILING.formatted("Failing"), "WRONG Failing");
        refused("a test of the project that cannot be compiled", "main/src/test/java/TornTest.java",
                "public final class TornTest {", "TornTest.java");
        refused("a shared test that cannot be compiled", "shared/tests/Torn.java",
                "public final class Torn {", "Torn.java");
        refused("a class without the method of a shared test", "shared/tests/Asking.java",
                "public final class Asking { int a = new WidthMinimizer().missing(); }", "missing()");
        withoutSharedTests();
        Script.finish();
    }

    private static void passing() throws IOException, InterruptedException {
        CleanCopy copy = CleanCopy.make();
        expect("a clean checkout", copy, ".ci/run", true, "ok    ExamplesTest\nok    SharedRuns\n");
        expect("from another folder", copy, "cd src/main && ../../.ci/run", true,
                "ok    ExamplesTest\nok    SharedRuns\n");
        copy.delete();
    }

    private static void refused(String name, String file, String text, String told)
            throws IOException, InterruptedException {
        CleanCopy copy = CleanCopy.make();
        copy.write(file, text);
        expect(name, copy, ".ci/run", false, told);
        copy.delete();
    }

    private static void withoutSharedTests() throws IOException, InterruptedException {
        CleanCopy copy = CleanCopy.make();
        copy.remove("shared/tests");
        expect("no folder of shared tests", copy, ".ci/run", false, "there is no ../shared/tests");
        copy.delete();
    }

    private static void expect(String name, CleanCopy copy, String commands, boolean passes, String told)
            throws IOException, InterruptedException {
        int code = copy.run(commands);
        if ((code == 0) != passes || !copy.printed().contains(told)) {
            Script.report(name + ": exit code " + code + " with\n" + copy.printed());
        }
    }
}
