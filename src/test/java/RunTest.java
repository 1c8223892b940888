import java.nio.file.Path;
import java.util.ArrayList;
import java.util.List;

/** .ci/run, as README.md tells to run it, on small projects: it runs every test, and fails if one does. */
public final class RunTest {
    private static final String CLASS = "main/src/main/java/FlushedPipes.java";
    private static final String OWN = "main/src/test/java/FirstTest.java";
    private static final String OWN_LAST = "main/src/test/java/LastTest.java";
    private static final String SHARED = "shared/tests/FirstRuns.java";
    private static final String SHARED_LAST = "shared/tests/LastRuns.java";
    private static final List<String> ALL = List.of(OWN, OWN_LAST, SHARED, SHARED_LAST);

    private record Run(String name, Sandbox sandbox, Process process, boolean passes) {
    }

    /** All are started first, and then waited for, as most of their time is the start of javac. */
    private final List<Run> runs = new ArrayList<>();

    public static void main(String[] args) throws Exception {
        Check.topic(".ci/run");
        RunTest test = new RunTest();
        test.startThoseThatPass();
        test.startThoseThatFail();
        for (Run run : test.runs) {
            end(run);
        }
        Check.end();
    }

    private void startThoseThatPass() throws Exception {
        Sandbox here = project(ALL);
        start("every test passes", here, here.main(), Readme.blocks("sh").get(0), true);
        Sandbox elsewhere = project(ALL);
        start("every test passes, from elsewhere", elsewhere, elsewhere.root(), List.of("main/.ci/run"), true);
    }

    private void startThoseThatFail() throws Exception {
        for (String test : List.of(OWN, SHARED)) {
            startSpoilt("a test that fails", test, testOf(test, "System.exit(1);"));
            startSpoilt("a test that throws", test, testOf(test, "Integer.parseInt(\"\");"));
            startSpoilt("a test that does not compile", test, testOf(test, "nothing"));
        }
        startSpoilt("the last test fails", SHARED_LAST, testOf(SHARED_LAST, "System.exit(1);"));
        startSpoilt("a class that does not compile", CLASS, "public final class FlushedPipes { nothing }");
        Sandbox alone = project(List.of(OWN));
        start("no shared tests", alone, alone.main(), List.of(".ci/run"), false);
    }

    private static String testOf(String test, String last) {
        String name = nameOf(test);
        return "public final class " + name + " {\n    public static void main(String[] args) {\n"
            + "        System.out.println(\"ran " + name + " \" + new FlushedPipes());\n        " + last + "\n    }\n}\n";
    }

    private static String nameOf(String test) {
        return test.substring(test.lastIndexOf('/') + 1, test.lastIndexOf('.'));
    }

    private static Sandbox project(List<String> tests) throws Exception {
        Sandbox sandbox = new Sandbox();
        sandbox.copy(".ci/run");
        sandbox.write(CLASS, "public final class FlushedPipes {\n    public String toString() { return \"it\"; }\n}\n");
        for (String test : tests) {
            sandbox.write(test, testOf(test, ""));
        }
        return sandbox;
    }

    private void startSpoilt(String name, String file, String text) throws Exception {
        Sandbox sandbox = project(List.of(OWN, SHARED, SHARED_LAST));
        sandbox.write(file, text);
        start(name + ", " + file, sandbox, sandbox.main(), List.of(".ci/run"), false);
    }

    private void start(String name, Sandbox sandbox, Path from, List<String> commands, boolean passes)
        throws Exception {
        runs.add(new Run(name, sandbox, sandbox.start(from, commands), passes));
    }

    private static void end(Run run) throws Exception {
        try (Sandbox sandbox = run.sandbox()) {
            int code = run.process().waitFor();
            String told = run.name() + ": " + sandbox.output();
            Check.due(told + "it passes", code == 0 ? 1 : 0, run.passes() ? 1 : 0);
            for (String test : run.passes() ? ALL : List.<String>of()) {
                Check.due(told + "ran " + test, sandbox.output().contains("ran " + nameOf(test) + " it") ? 1 : 0, 1);
            }
        }
    }
}
