import java.io.IOException;
import java.nio.file.Files;
import java.nio.file.Path;
import java.util.Arrays;
import java.util.List;
import java.util.Set;
import java.util.TreeSet;
import java.util.regex.Matcher;
import java.util.regex.Pattern;

/** The rules of LANGUAGE.md that can be seen in the class's text; FaceTest looks at its face. */
public final class LanguageTest {
    private static final Set<String> OWN = Set.of("ByteShapes", "Kind", "Row", "Shape", "Fraction", "Reader", "Writer");
    private static final Set<String> LIBRARY = Set.of("Math.max", "Math.min", "Math.abs", "System.arraycopy");
    private static final Set<String> THROWN = Set.of("IllegalStateException", "IllegalArgumentException",
        "IndexOutOfBoundsException");
    private static final List<String> NEVER = List.of("package", "import", "try", "catch", "finally", "synchronized",
        "assert", "protected", "double", "float", "native", "volatile", "transient", "var", "null", "Object",
        "StringBuilder", "equals", "hashCode", "toString", "getMessage", "getClass");

    public static void main(String[] args) throws IOException {
        String source = Files.readString(Path.of("src/main/java/ByteShapes.java"));
        String code = source.replaceAll("(?s)/\\*.*?\\*/", "").replaceAll("//.*", "").replaceAll("\"[^\"]*\"", "\"\"");
        Check.isTrue("characters 0 to 255 alone", source.chars().allMatch(c -> c < 256));
        wordsAndSigns(code);
        names(code);
        exceptions(code);
        sizes(code);
        Check.done();
    }

    private static List<String> found(String pattern, String code) {
        return Pattern.compile(pattern).matcher(code).results().map(found -> found.group(1)).toList();
    }

    private static void wordsAndSigns(String code) {
        for (String word : NEVER) {
            Check.equal("rules 1 to 7: the word " + word, 0, found("\\b(" + word + ")\\b", code).size());
        }
        Check.equal("rule 2: lambdas and method references", 0, found("(->|::)", code).size());
        Check.equal("rule 5: initialiser blocks", 0, found("(static\\s*\\{)", code).size());
        Check.equal("rule 4: names that end in Exact", 0, found("(Exact\\()", code).size());
        Check.equal("rule 5: static fields that are not final", 0,
            found("(static (?!final )[\\w\\[\\]]+ \\w+ *[=;])", code).size());
        Check.equal("rule 3: arrays of three dimensions", 0, found("(\\[\\]\\[\\]\\[\\])", code).size());
    }

    private static void names(String code) {
        Set<String> classes = new TreeSet<>(found("\\bclass (\\w+)", code));
        Check.isTrue("rule 4: classes " + classes, classes.equals(new TreeSet<>(OWN)));
        for (String called : found("\\b([A-Z]\\w*\\.\\w+)\\(", code)) {
            Check.isTrue("rule 4: " + called, LIBRARY.contains(called) || OWN.contains(called.replaceAll("\\..*", "")));
        }
        for (String name : found("\\b([A-Z][a-z]\\w*)\\b", code)) {
            Check.isTrue("rules 3 and 4: " + name, OWN.contains(name) || THROWN.contains(name)
                || Set.of("Math", "System").contains(name));
        }
    }

    private static void exceptions(String code) {
        int throwing = 0;
        for (String thrown : found("\\bthrow ([^;]*);", code)) {
            throwing++;
            Matcher made = Pattern.compile("new (\\w+)\\((\"\")?\\)").matcher(thrown);
            Check.isTrue("rule 6: throw " + thrown, made.matches() && THROWN.contains(made.group(1)));
        }
        Check.equal("rule 6: every throw is looked at", found("\\b(throw)\\b", code).size(), throwing);
    }

    private static void sizes(String code) {
        Check.isTrue("rule 11: some twelve classes", found("\\b(class)\\b", code).size() <= 12);
        for (String given : found("\\w\\(([^()]*)\\)[^;{]*\\{", code)) {
            Check.isTrue("rule 11: seven parameters: " + given, given.split(",").length <= 7);
        }
        for (String body : code.split("\n\\s*\n")) {
            Check.isTrue("rule 11: some sixty lines: " + Arrays.toString(body.split("\n")), body.lines().count() <= 60);
        }
    }
}
