import java.nio.file.Files;
import java.nio.file.Path;
import java.util.regex.Matcher;
import java.util.regex.Pattern;

/** The rules of LANGUAGE.md that can be seen in the words of the file. */
public final class FormTest {
    private static final String[] FORBIDDEN = {"throw", "throws", "try", "catch", "synchronized", "assert", "package",
        "protected", "native", "volatile", "transient", "Object", "System.out", "System.err", "Thread", "Random",
        "nanoTime", "currentTimeMillis", "hashCode", "toString", "equals", "addExact", "multiplyExact"};

    public static void main(String[] args) throws Exception {
        Check.topic("the form");
        String code = withoutComments(Files.readString(Path.of("src/main/java/FlushedPipes.java")));
        for (String word : FORBIDDEN) {
            Check.due(word, times(code, "\\b" + Pattern.quote(word) + "\\b"), 0);
        }
        Check.due("lambdas", times(code, "->"), 0);
        Check.due("method references", times(code, "::"), 0);
        Check.due("imports", times(code, "\\bimport\\b"), times(code, "import java\\.util\\.(Arrays|ArrayList|List);"));
        Check.due("library calls but fill", times(code, "Arrays\\.(?!fill\\b)"), 0);
        Check.due("array initialisers of static blocks", times(code, "static\\s*\\{"), 0);
        Check.due("static fields that are not final", times(code, "static (?!final )[\\w\\[\\]]+ \\w+\\s*[=;,]"), 0);
        Check.due("classes but twelve", Math.max(0, times(code, "\\bclass \\w+") - 12), 0);
        Check.due("signs above 126", times(code, "[^\\x00-\\x7e]"), 0);
        objectsOnlyInConstructors(code);
        shortMethods(code);
        Check.end();
    }

    private static String withoutComments(String code) {
        return code.replaceAll("(?s)/\\*.*?\\*/", "").replaceAll("//[^\n]*", "");
    }

    private static int times(String code, String pattern) {
        Matcher matcher = Pattern.compile(pattern).matcher(code);
        int times = 0;
        while (matcher.find()) {
            times++;
        }
        return times;
    }

    /** A run's room is shared by all its calls, so calls make nothing: no method that answers something has a new. */
    private static void objectsOnlyInConstructors(String code) {
        Matcher matcher = methods(code);
        while (matcher.find()) {
            String body = bodyAt(code, matcher.end() - 1);
            Check.due("objects made by " + matcher.group(2), times(body, "\\bnew\\b"), 0);
        }
    }

    private static void shortMethods(String code) {
        Matcher matcher = methods(code);
        int methods = 0;
        while (matcher.find()) {
            methods++;
            String body = bodyAt(code, matcher.end() - 1);
            Check.due("lines above 60 of " + matcher.group(2), Math.max(0, times(body, "\n") - 60), 0);
            Check.due("parameters above 7 of " + matcher.group(2), Math.max(0, times(matcher.group(3), ",") - 6), 0);
        }
        Check.due("methods are found", methods > 60 ? 1 : 0, 1);
    }

    private static Matcher methods(String code) {
        return Pattern.compile("\\b(int|boolean|void) (\\w+)\\(([^)]*)\\) \\{").matcher(code);
    }

    private static String bodyAt(String code, int open) {
        int depth = 0;
        for (int i = open; i < code.length(); i++) {
            depth += code.charAt(i) == '{' ? 1 : code.charAt(i) == '}' ? -1 : 0;
            if (depth == 0) {
                return code.substring(open, i);
            }
        }
        return code.substring(open);
    }
}
