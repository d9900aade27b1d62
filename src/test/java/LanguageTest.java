import java.io.IOException;
import java.nio.file.Files;
import java.nio.file.Path;
import java.util.List;
import java.util.regex.Pattern;

/** The rules of LANGUAGE.md that can be read off the words of the source. Runs in the project's folder. */
public final class LanguageTest {
    private static final List<String> RULED_OUT = List.of(
            "import", "package", "throw", "throws", "try", "catch", "finally", "synchronized", "assert",
            "volatile", "native", "transient", "instanceof", "Object", "System", "Thread", "Random",
            "LinkedList", "ListIterator", "hashCode", "equals", "toString", "protected", "float", "double");

    public static void main(String[] args) throws IOException {
        Due due = new Due();
        due.about("language");
        String code = Files.readString(Path.of("src/main/java/Pegrow.java"))
                .replaceAll("(?s)/\\*.*?\\*/", "").replaceAll("//.*", "");
        for (String word : RULED_OUT) {
            due.is("the word " + word, count(code, "\\b" + word + "\\b"), 0);
        }
        due.is("lambdas", count(code, "->"), 0);
        due.is("method references", count(code, "::"), 0);
        due.is("static fields that are not final", count(code, "static (?!final|class)[\\w\\[\\]]+ \\w+( =|;)"), 0);
        due.is("inner classes that are not static", count(code, "\\bclass\\b") - count(code, "static final class"), 1);
        due.is("signs above 127", count(code, "[^\\x00-\\x7f]"), 0);
        due.end();
    }

    private static long count(String code, String pattern) {
        return Pattern.compile(pattern).matcher(code).results().count();
    }
}
