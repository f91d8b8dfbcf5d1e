import java.lang.reflect.Constructor;
import java.lang.reflect.Field;
import java.lang.reflect.Method;
import java.lang.reflect.Modifier;
import java.util.Arrays;
import java.util.Map;
import java.util.Set;
import java.util.TreeMap;
import java.util.TreeSet;

/** The public face is that of the document, and nothing else is open. */
public final class FaceTest {
    private static final Map<String, Integer> METHODS = new TreeMap<>();

    static {
        for (String name : new String[] {"word", "grade", "walked", "undo", "clearText", "moved"}) {
            METHODS.put(name, 0);
        }
        for (String name : new String[] {"letterOf", "isRoom", "make", "doors", "count", "part", "start", "goal",
            "longest", "unsign", "points", "type", "fault"}) {
            METHODS.put(name, 1);
        }
        for (String name : new String[] {"letter", "distance", "again", "farthest", "walk"}) {
            METHODS.put(name, 2);
        }
        for (String name : new String[] {"door", "way", "sign"}) {
            METHODS.put(name, 3);
        }
    }

    private final Check check = new Check("FaceTest");

    public static void main(String[] args) {
        FaceTest test = new FaceTest();
        test.constants();
        test.methods();
        test.constructors();
        test.insideClasses();
        test.check.end();
    }

    private void yes(String what, boolean answer) {
        check.due(what, answer ? 1 : 0, 1);
    }

    private void constants() {
        check.due("INVALID_ARGUMENT", WordMaze.INVALID_ARGUMENT, -1);
        check.due("NOT_POSSIBLE", WordMaze.NOT_POSSIBLE, -2);
        check.due("LIMIT_REACHED", WordMaze.LIMIT_REACHED, -3);
        check.due("NOT_FOUND", WordMaze.NOT_FOUND, -4);
        Set<String> known = Set.of("INVALID_ARGUMENT", "NOT_POSSIBLE", "LIMIT_REACHED", "NOT_FOUND");
        for (Field field : WordMaze.class.getDeclaredFields()) {
            int modifiers = field.getModifiers();
            yes("the field " + field.getName(), known.contains(field.getName())
                ? Modifier.isPublic(modifiers) && Modifier.isStatic(modifiers) && Modifier.isFinal(modifiers)
                : Modifier.isPrivate(modifiers));
        }
    }

    private void methods() {
        Set<String> found = new TreeSet<>();
        for (Method method : WordMaze.class.getDeclaredMethods()) {
            String name = method.getName();
            if (Modifier.isPublic(method.getModifiers())) {
                found.add(name);
                Class<?>[] types = method.getParameterTypes();
                yes("the method " + name, METHODS.containsKey(name) && METHODS.get(name) == types.length
                    && method.getReturnType() == int.class && !Modifier.isStatic(method.getModifiers())
                    && Arrays.stream(types).allMatch(type -> type == int.class));
            } else {
                yes("the method " + name, Modifier.isPrivate(method.getModifiers()) && !METHODS.containsKey(name));
            }
        }
        yes("all methods", found.equals(METHODS.keySet()));
    }

    private void constructors() {
        Constructor<?>[] all = WordMaze.class.getDeclaredConstructors();
        check.due("constructors", all.length, 1);
        yes("a public one", Modifier.isPublic(all[0].getModifiers()) && all[0].getParameterCount() == 0);
        yes("a final class", Modifier.isFinal(WordMaze.class.getModifiers()));
        yes("no package", WordMaze.class.getPackageName().isEmpty());
        yes("nothing above it", WordMaze.class.getSuperclass() == Object.class);
    }

    private void insideClasses() {
        Class<?>[] inside = WordMaze.class.getDeclaredClasses();
        yes("at most twelve classes", inside.length < 12);
        for (Class<?> one : inside) {
            int modifiers = one.getModifiers();
            yes("the class " + one.getName(), Modifier.isStatic(modifiers) && !Modifier.isPublic(modifiers));
        }
    }
}
