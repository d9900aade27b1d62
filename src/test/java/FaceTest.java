import java.lang.reflect.Constructor;
import java.lang.reflect.Field;
import java.lang.reflect.Member;
import java.lang.reflect.Method;
import java.lang.reflect.Modifier;
import java.util.ArrayList;
import java.util.Arrays;
import java.util.List;
import java.util.TreeSet;

/** The class has the document's face, and nothing else that can be seen from outside. */
public final class FaceTest {
    private static final String METHODS = """
            int put(int, int, boolean, int)
            int end(int, boolean, int)
            int take(int, boolean, int)
            int at(int, int)
            int lay(int, int, int)
            int insert(int, int, int)
            int drop(int, int)
            int find(int, int, boolean)
            int has(int, int)
            int lose(int, int, int)
            int all(int, int, int)
            int clear(int)
            int copy(int, int)
            int turn(int)
            int weave(int, int)
            int prune(int)
            int size(int)
            int sum(int)
            int peg(int, int, int)
            int next(int)
            int previous(int)
            int side(int, int)
            int change(int, int)
            int add(int, int)
            int remove(int)
            int old(int)
            int count(int)
            """;

    public static void main(String[] args) {
        Due due = new Due();
        due.about("face");
        due.is("modifiers", Modifier.toString(Pegrow.class.getModifiers()), "public final");
        due.is("methods", methods(), new TreeSet<>(METHODS.lines().toList()).toString());
        due.is("constructors", constructors(), "[public Pegrow()]");
        due.is("constants", constants(),
                "[BAD=-1, FREE=-2, FULL=-3, OLD=-4, PLACE=-5, EMPTY=-6, STATE=-7, LOST=-8]");
        due.is("private methods with a public name", twiceNamed(), "[]");
        due.end();
    }

    private static boolean isSeen(Member member) {
        return !Modifier.isPrivate(member.getModifiers());
    }

    private static String methods() {
        TreeSet<String> seen = new TreeSet<>();
        for (Method method : Pegrow.class.getDeclaredMethods()) {
            if (isSeen(method)) {
                String types = Arrays.toString(method.getParameterTypes()).replaceAll("[\\[\\]]", "");
                String kind = method.getModifiers() == Modifier.PUBLIC ? "" : "not just public: ";
                seen.add(kind + method.getReturnType() + " " + method.getName() + "(" + types + ")");
            }
        }
        return seen.toString();
    }

    private static String constructors() {
        List<String> seen = new ArrayList<>();
        for (Constructor<?> constructor : Pegrow.class.getDeclaredConstructors()) {
            seen.add(constructor.toString());
        }
        return seen.toString();
    }

    private static String constants() {
        List<String> seen = new ArrayList<>();
        for (Field field : Pegrow.class.getDeclaredFields()) {
            if (isSeen(field)) {
                seen.add(constant(field));
            }
        }
        return seen.toString();
    }

    private static String constant(Field field) {
        try {
            boolean isInt = field.toString().startsWith("public static final int ");
            return isInt ? field.getName() + "=" + field.getInt(null) : field.toString();
        } catch (IllegalAccessException e) {
            return field + " can't be read";
        }
    }

    private static String twiceNamed() {
        TreeSet<String> names = new TreeSet<>();
        for (Method method : Pegrow.class.getDeclaredMethods()) {
            if (isSeen(method)) {
                names.add(method.getName());
            }
        }
        TreeSet<String> twice = new TreeSet<>();
        List<Class<?>> classes = new ArrayList<>(Arrays.asList(Pegrow.class.getDeclaredClasses()));
        classes.add(Pegrow.class);
        for (Class<?> each : classes) {
            for (Method method : each.getDeclaredMethods()) {
                if ((each != Pegrow.class || !isSeen(method)) && names.contains(method.getName())) {
                    twice.add(each.getName() + "." + method.getName());
                }
            }
        }
        return twice.toString();
    }
}
