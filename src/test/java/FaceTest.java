import java.lang.reflect.Constructor;
import java.lang.reflect.Field;
import java.lang.reflect.Method;
import java.lang.reflect.Modifier;
import java.util.Set;
import java.util.TreeSet;

/** The public face is the document's, and nothing else is seen from outside. */
public final class FaceTest {
    private static final String[] METHODS = {"type 1", "clear 0", "machine 0", "instruction 2", "puts 5", "leaves 1",
        "tells 3", "undo 0", "fact 1", "ruled 0", "equal 3", "deep 2", "term 3", "step 1", "length 0", "wrong 0",
        "needed 0", "fewest 0", "broken 1", "sees 1", "forget 0", "unseen 0", "keep 1", "back 1", "count 1"};
    private static final String[] CONSTANTS = {"BAD", "STATE", "FULL", "NONE"};

    public static void main(String[] args) {
        Check.topic("the face");
        Class<?> face = FlushedPipes.class;
        Check.due("public and final", face.getModifiers(), Modifier.PUBLIC | Modifier.FINAL);
        Constructor<?>[] constructors = face.getDeclaredConstructors();
        Check.due("constructors", constructors.length, 1);
        Check.due("its parameters", constructors[0].getParameterCount(), 0);
        Check.due("it is public", constructors[0].getModifiers(), Modifier.PUBLIC);
        methods(face);
        constants(face);
        for (Class<?> inside : face.getDeclaredClasses()) {
            Check.due(inside + " is static", inside.getModifiers() & Modifier.STATIC, Modifier.STATIC);
            Check.due(inside + " is not public", inside.getModifiers() & (Modifier.PUBLIC | Modifier.PROTECTED), 0);
        }
        Check.due("BAD", FlushedPipes.BAD, -1);
        Check.due("STATE", FlushedPipes.STATE, -2);
        Check.due("FULL", FlushedPipes.FULL, -3);
        Check.due("NONE", FlushedPipes.NONE, -9);
        Check.end();
    }

    private static void methods(Class<?> face) {
        Set<String> due = new TreeSet<>(Set.of(METHODS));
        Set<String> names = new TreeSet<>();
        for (String method : METHODS) {
            names.add(method.substring(0, method.indexOf(' ')));
        }
        for (Method method : face.getDeclaredMethods()) {
            boolean isPublic = Modifier.isPublic(method.getModifiers());
            if (isPublic) {
                Check.due(method + " is of the face", due.remove(method.getName() + " " + method.getParameterCount()) ? 1 : 0, 1);
                Check.due(method + " answers an int", method.getReturnType() == int.class ? 1 : 0, 1);
                for (Class<?> type : method.getParameterTypes()) {
                    Check.due(method + " takes ints", type == int.class ? 1 : 0, 1);
                }
            } else {
                Check.due(method + " is private", method.getModifiers() & Modifier.PRIVATE, Modifier.PRIVATE);
                Check.due(method + " has a name of its own", names.contains(method.getName()) ? 1 : 0, 0);
            }
        }
        Check.due("methods that are not there: " + due, due.size(), 0);
    }

    private static void constants(Class<?> face) {
        Set<String> due = new TreeSet<>(Set.of(CONSTANTS));
        for (Field field : face.getDeclaredFields()) {
            if (!Modifier.isPrivate(field.getModifiers())) {
                Check.due(field + " is of the face", due.remove(field.getName()) ? 1 : 0, 1);
                Check.due(field + "", field.getModifiers(), Modifier.PUBLIC | Modifier.STATIC | Modifier.FINAL);
            }
        }
        Check.due("constants that are not there: " + due, due.size(), 0);
    }
}
