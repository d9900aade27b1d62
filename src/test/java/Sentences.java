import java.lang.reflect.InvocationTargetException;
import java.lang.reflect.Method;
import java.lang.reflect.Modifier;
import java.util.Arrays;
import java.util.Comparator;
import java.util.StringJoiner;

/**
 * What the tests of single sentences share. Such a test is a method without parameters that is not
 * private; its name tells the promise, or the head under 'Terms', and the case that it is about.
 */
abstract class Sentences {
    static final int BAD = -1, FREE = -2, FULL = -3, OLD = -4, PLACE = -5, EMPTY = -6, STATE = -7, LOST = -8;
    static final int LOWEST = Integer.MIN_VALUE, HIGHEST = Integer.MAX_VALUE;
    static final int[] NO_ROWS = {-1, 3, LOWEST, HIGHEST};
    static final int[] NO_PEGS = {-1, 4, LOWEST, HIGHEST};
    static final int[] NO_NAMES = {-1, 10, LOWEST, HIGHEST};
    static final String NO_REFUSALS = "0 0 0 0";

    private static final Due due = new Due();

    static void runAll(Class<?> tests) {
        Method[] methods = tests.getDeclaredMethods();
        Arrays.sort(methods, Comparator.comparing(Method::getName));
        int ran = 0;
        for (Method method : methods) {
            if (method.getParameterCount() == 0 && !Modifier.isPrivate(method.getModifiers())) {
                due.about(method.getName());
                run(method);
                ran++;
            }
        }
        System.out.print(ran + " tests, ");
        due.end();
    }

    private static void run(Method test) {
        try {
            test.invoke(null);
        } catch (InvocationTargetException e) {
            due.is("what a call threw", String.valueOf(e.getCause()), "nothing");
        } catch (IllegalAccessException e) {
            due.is("what kept the test from being run", e.toString(), "nothing");
        }
    }

    static void is(String what, long got, long want) {
        due.is(what, got, want);
    }

    static void is(String what, String got, String want) {
        due.is(what, got, want);
    }

    /** Of several answers, in the order in which they were asked, each one must be the same. */
    static void allAre(String what, int want, int... got) {
        for (int i = 0; i < got.length; i++) {
            due.is(what + ", " + i, got[i], want);
        }
    }

    /** A new object, with things of these names in row 0: their marks are 0, 1, 2 and so on. */
    static Pegrow with(int... names) {
        Pegrow x = new Pegrow();
        fill(x, 0, names);
        return x;
    }

    /** Row 0 with the names 1, 2 and 3 (told as 1, 12 and 23), peg 0 ahead of its place 1. */
    static Pegrow pegged() {
        Pegrow x = with(1, 2, 3);
        x.peg(0, 0, 1);
        return x;
    }

    /** As pegged(), and peg 0 has the thing 12 in hand, and stands behind it. */
    static Pegrow handed() {
        Pegrow x = pegged();
        x.next(0);
        return x;
    }

    /** Row 0 with 60 things, that at place 59 told as 599. */
    static Pegrow full() {
        Pegrow x = new Pegrow();
        fillTo(x, 0, 60);
        return x;
    }

    static void fill(Pegrow x, int row, int... names) {
        for (int name : names) {
            x.put(row, name, true, 0);
        }
    }

    static void fillTo(Pegrow x, int row, int size) {
        for (int many = x.size(row); many < size; many++) {
            x.put(row, many % 10, true, 0);
        }
    }

    /** The things of a row as they are told, in order. */
    static String row(Pegrow x, int row) {
        StringJoiner things = new StringJoiner(" ");
        int size = x.size(row);
        for (int place = 0; place < size; place++) {
            things.add(String.valueOf(x.at(row, place)));
        }
        return things.toString();
    }

    /** What can be asked in few calls without a refusal, but for the number of refusals. */
    static String state(Pegrow x) {
        StringJoiner all = new StringJoiner(", ");
        for (int row = 0; row < 3; row++) {
            all.add("row " + x.size(row) + " " + x.sum(row));
        }
        for (int peg = 0; peg < 4; peg++) {
            all.add("peg " + x.old(peg) + " " + x.side(peg, 2));
        }
        return all.add("counts " + x.count(0) + " " + x.count(5) + " " + x.count(6)).toString();
    }

    /** How many refusals there were, of the kinds 0 to 3. */
    static String refusals(Pegrow x) {
        return x.count(1) + " " + x.count(2) + " " + x.count(3) + " " + x.count(4);
    }
}
