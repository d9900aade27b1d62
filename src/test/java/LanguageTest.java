import java.io.IOException;
import java.lang.reflect.Field;
import java.lang.reflect.Method;
import java.lang.reflect.Modifier;
import java.nio.file.Files;
import java.nio.file.Path;
import java.util.ArrayList;
import java.util.List;
import java.util.Set;
import java.util.TreeSet;
import java.util.regex.Matcher;
import java.util.regex.Pattern;

/**
 * Rules of LANGUAGE.md, as far as a look at the words of the source or at the compiled classes can
 * tell them. Runs in the project's folder.
 */
public final class LanguageTest {
    private static final Set<String> LIBRARY = Set.of("String", "StringBuilder", "Integer", "Long", "Math", "ArrayList",
            "List", "Arrays", "Iterator", "Iterable", "Comparable", "System", "Override");
    private static final List<String> NO_WORDS = List.of("package", "protected", "throw", "throws", "try", "catch",
            "finally", "synchronized", "assert", "volatile", "native", "transient", "strictfp");
    private static final int LONGEST_METHOD = 60;

    private static final Due due = new Due();

    public static void main(String[] args) throws IOException {
        String source = Files.readString(Path.of("src/main/java/Pegrow.java"));
        due.about("language");
        words(source.replaceAll("(?s)/\\*.*?\\*/", "").replaceAll("//.*", ""));
        List<Class<?>> classes = new ArrayList<>();
        collect(Pegrow.class, classes);
        due.is("rule 11, at most twelve classes", classes.size() <= 12 ? "so" : "not so", "so");
        for (Class<?> each : classes) {
            shape(each);
        }
        due.is("rule 11, methods of more than some 60 lines", longMethods(source), "[]");
        due.end();
    }

    private static void words(String code) {
        for (String word : NO_WORDS) {
            due.is("rules 1 and 6, the word " + word, count(code, "\\b" + word + "\\b"), 0);
        }
        due.is("rule 2, lambdas and references", count(code, "->|::"), 0);
        due.is("rule 2, anonymous classes", count(code, "new \\w+(<\\w*>)?\\([^;]*\\) *\\{"), 0);
        due.is("rule 4, what is not in the list", notListed(code), "[]");
        due.is("rule 4, calls of System but arraycopy", count(code, "\\bSystem\\b(?!\\.arraycopy\\()"), 0);
        due.is("rule 4, names that end in Exact", count(code, "\\w+Exact\\b"), 0);
        due.is("rule 4, signs above 127", count(code, "[^\\x00-\\x7f]"), 0);
        due.is("rule 6, equals, hashCode or toString of its own",
                count(code, "boolean equals\\(|int hashCode\\(|String toString\\("), 0);
    }

    private static long count(String code, String pattern) {
        return Pattern.compile(pattern).matcher(code).results().count();
    }

    // Names of classes begin with one great letter and go on with small ones, those of constants don't.
    private static String notListed(String code) {
        TreeSet<String> names = new TreeSet<>();
        Matcher name = Pattern.compile("\\b[A-Z]\\w*[a-z]\\w*").matcher(code);
        while (name.find()) {
            names.add(name.group());
        }
        Matcher own = Pattern.compile("\\b(class|record|enum|interface) (\\w+)").matcher(code);
        while (own.find()) {
            names.remove(own.group(2));
        }
        names.removeAll(LIBRARY);
        return names.toString();
    }

    private static void collect(Class<?> from, List<Class<?>> into) {
        into.add(from);
        for (Class<?> inside : from.getDeclaredClasses()) {
            collect(inside, into);
        }
    }

    private static void shape(Class<?> each) {
        boolean isOuter = each == Pegrow.class;
        boolean isStatic = Modifier.isStatic(each.getModifiers());
        due.is("rule 2, static inside: " + each, isOuter || isStatic ? "so" : "not so", "so");
        int held = 0;
        for (Field field : each.getDeclaredFields()) {
            boolean isFinal = Modifier.isFinal(field.getModifiers());
            boolean isShared = Modifier.isStatic(field.getModifiers());
            due.is("rule 5, " + field, !isShared || isFinal ? "so" : "not so", "so");
            held += isShared ? 0 : 1;
        }
        due.is("rule 11, some twenty fields: " + each, held <= 20 ? "so" : "not so", "so");
        for (Method method : each.getDeclaredMethods()) {
            due.is("rule 11, seven parameters: " + method, method.getParameterCount() <= 7 ? "so" : "not so", "so");
        }
    }

    private static String longMethods(String source) {
        List<String> found = new ArrayList<>();
        String[] lines = source.split("\n");
        for (int from = 0; from < lines.length; from++) {
            Matcher head = Pattern.compile("^( {4}| {8})\\w.*\\) \\{$").matcher(lines[from]);
            int to = from;
            while (head.matches() && to < lines.length - 1 && !lines[to].equals(head.group(1) + "}")) {
                to++;
            }
            if (to - from > LONGEST_METHOD) {
                found.add(lines[from].trim());
            }
        }
        return found.toString();
    }
}
