import java.lang.reflect.Method;
import java.lang.reflect.Modifier;
import java.nio.file.Path;
import java.util.List;
import java.util.Set;
import java.util.TreeSet;

/** The rules of LANGUAGE.md, held against the file as the compiler reads it; the rest of rule 1 is FaceTest's. */
public final class FormTest {
    private static final int CLASSES = 12, FIELDS = 20, LINES = 60, PARAMETERS = 7, CALLS_DEEP = 8;

    public static void main(String[] args) throws Exception {
        Form form = Form.of(Path.of("src/main/java/FlushedPipes.java"));
        namesOfItsOwn(form);
        dueNone("2 a class inside that is not static, is local or anonymous", form.classesNotStatic);
        dueNone("2, 6, 10 what is not of the language", form.forbidden);
        dueNone("3 types", form.typesNotListed);
        dueNone("4 the library", form.callsNotListed);
        dueNone("4, 13 imports", form.importsNotListed);
        dueNone("5 static fields", form.staticFieldsNotConstant);
        dueNone("6 casts, but among numbers", form.casts);
        dueNone("7 an index that is not looked at", form.indexesNotLookedAt);
        dueNone("7 a divisor that is not a constant", form.divisors);
        dueNone("9 a loop whose end can't be seen", form.loopsWithoutBound);
        dueNone("12 an object that a call makes", form.madeByCalls);
        dueNone("4 signs above 126", form.oddSigns);
        Check.topic("8 recursion: the level is carried as an argument");
        Check.due("methods that call themselves: " + form.recursive(), form.recursive().size(), 1);
        Check.due("it is readTerm", form.recursive().contains("Reader.readTerm") ? 1 : 0, 1);
        sizes(form);
        Check.end();
    }

    private static void dueNone(String rule, List<String> found) {
        Check.topic(rule);
        Set<String> each = new TreeSet<>(found);
        Check.due(each.toString(), each.size(), 0);
    }

    private static void namesOfItsOwn(Form form) {
        Check.topic("1 no other method bears the name of a public one");
        Set<String> face = new TreeSet<>();
        for (Method method : FlushedPipes.class.getDeclaredMethods()) {
            if (Modifier.isPublic(method.getModifiers())) {
                face.add(method.getName());
            }
        }
        for (String method : form.lines.keySet()) {
            String name = method.substring(method.indexOf('.') + 1);
            boolean inside = !method.startsWith("FlushedPipes.");
            Check.due(method, inside && face.contains(name) ? 1 : 0, 0);
        }
    }

    private static void sizes(Form form) {
        Check.topic("11 sizes");
        Check.due("classes are found", form.classes > 1 ? 1 : 0, 1);
        dueAtMost("classes", form.classes, CLASSES);
        form.fields.forEach((name, fields) -> dueAtMost("fields of " + name, fields, FIELDS));
        Check.due("methods are found", form.lines.size() > 60 ? 1 : 0, 1);
        form.lines.forEach((name, lines) -> dueAtMost("lines of " + name, lines, LINES));
        form.parameters.forEach((name, parameters) -> dueAtMost("parameters of " + name, parameters, PARAMETERS));
        List<String> deepest = form.deepestCalls();
        dueAtMost("calls deep of " + deepest, deepest.size(), CALLS_DEEP);
        Check.due("calls are found", deepest.size() > 4 ? 1 : 0, 1);
    }

    private static void dueAtMost(String what, int is, int limit) {
        Check.due(what + " above " + limit, Math.max(0, is - limit), 0);
    }
}
