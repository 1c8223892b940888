import java.lang.reflect.Method;
import java.lang.reflect.Modifier;
import java.nio.file.Files;
import java.nio.file.Path;
import java.util.ArrayList;
import java.util.List;
import java.util.Set;
import java.util.TreeSet;
import java.util.regex.Matcher;
import java.util.regex.Pattern;

/** What README.md shows is so: its calls are made, with the answers that it tells, and its commands are run. */
public final class ReadmeTest {
    private static final Pattern CALL = Pattern.compile("x\\.((\\w+)\\(.*\\)); +// (-?\\d+|[A-Z]+)(:.*)?");

    public static void main(String[] args) throws Exception {
        calls();
        commands();
        Check.end();
    }

    private static void calls() throws Exception {
        Check.topic("README.md: the calls");
        Set<String> shown = new TreeSet<>();
        Set<String> answers = new TreeSet<>();
        List<String> program = new ArrayList<>();
        for (List<String> block : Readme.blocks("java")) {
            for (String line : block) {
                Matcher call = CALL.matcher(line);
                boolean told = call.matches();
                Check.due("'" + line + "' tells its answer", line.startsWith("x.") && !told ? 0 : 1, 1);
                if (told) {
                    shown.add(call.group(2));
                    answers.add(call.group(3));
                }
                program.add(told ? dueOf(call) : line);
            }
        }
        for (Method method : FlushedPipes.class.getMethods()) {
            boolean own = method.getDeclaringClass() == FlushedPipes.class && Modifier.isPublic(method.getModifiers());
            Check.due(method.getName() + " is shown", own && !shown.contains(method.getName()) ? 0 : 1, 1);
        }
        for (String name : List.of("BAD", "STATE", "FULL", "NONE")) {
            Check.due(name + " is shown", answers.contains(name) ? 1 : 0, 1);
        }
        runCalls(program);
    }

    private static String dueOf(Matcher call) {
        String answer = call.group(3);
        String want = Character.isLetter(answer.charAt(0)) ? "FlushedPipes." + answer : answer;
        String name = call.group(1).replace("\"", "\\\"");
        return "Check.due(\"" + name + "\", x." + call.group(1) + ", " + want + ");";
    }

    /** As a program of its own, so that README.md's lines must be Java, too. */
    private static void runCalls(List<String> program) throws Exception {
        try (Sandbox sandbox = new Sandbox()) {
            sandbox.copy("src/main/java/FlushedPipes.java");
            sandbox.copy("src/test/java/Check.java");
            sandbox.write("main/ReadmeCalls.java", "public final class ReadmeCalls {\n"
                + "public static void main(String[] args) {\nCheck.topic(\"README.md\");\n"
                + String.join("\n", program) + "\nCheck.end();\n}\n}\n");
            dueRuns(sandbox, "the calls", List.of(
                "javac -d classes src/main/java/FlushedPipes.java src/test/java/Check.java ReadmeCalls.java",
                "java -cp classes ReadmeCalls"));
        }
    }

    private static void dueRuns(Sandbox sandbox, String name, List<String> commands) throws Exception {
        int code = sandbox.start(sandbox.main(), commands).waitFor();
        String output = sandbox.output();
        Check.due(name + ": " + output + "exit code", code, 0);
        Check.due(name + ": " + output + "all are as due", output.contains("all answers are as due") ? 1 : 0, 1);
    }

    private static void commands() throws Exception {
        Check.topic("README.md: the commands");
        List<List<String>> blocks = Readme.blocks("sh");
        Check.due("blocks of commands", blocks.size(), 2);
        if (blocks.size() != 2) {
            return;
        }
        // RunTest runs it on small projects: here it would run this test again, and so on.
        Check.due("'" + blocks.get(0) + "' is .ci/run", blocks.get(0).equals(List.of(".ci/run")) ? 1 : 0, 1);
        Check.due(".ci/run can be run", Files.isExecutable(Path.of(".ci/run")) ? 1 : 0, 1);
        try (Sandbox sandbox = new Sandbox()) {
            sandbox.copy("src");
            dueRuns(sandbox, "one test alone", blocks.get(1));
        }
        namedTests();
    }

    /** Every test of the project is named, and no other. */
    private static void namedTests() throws Exception {
        Set<String> named = new TreeSet<>();
        Matcher name = Pattern.compile("\\b\\w+Test\\b").matcher(Files.readString(Path.of("README.md")));
        while (name.find()) {
            named.add(name.group());
        }
        Set<String> there = new TreeSet<>();
        try (var files = Files.list(Path.of("src/test/java"))) {
            files.map(path -> path.getFileName().toString()).filter(file -> file.endsWith("Test.java"))
                .forEach(file -> there.add(file.substring(0, file.length() - ".java".length())));
        }
        Check.due("named " + named + ", there " + there, named.equals(there) ? 1 : 0, 1);
    }
}
