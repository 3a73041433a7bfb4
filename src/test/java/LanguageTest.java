import java.io.IOException;
import java.nio.file.Files;
import java.nio.file.Path;
import java.util.List;
import java.util.Set;
import java.util.TreeSet;
import java.util.regex.Matcher;
import java.util.regex.Pattern;

/** What of ../shared/LANGUAGE.md can be seen from the text of the class; the rest is for the reader. */
public final class LanguageTest {
    private static final Check CHECK = new Check("LanguageTest");
    private static final String SOURCE = "src/main/java/MortgageRegister.java";

    private static final Set<String> IMPORTS = Set.of("java.util.Arrays", "java.util.NoSuchElementException");
    private static final Set<String> EXCEPTIONS = Set.of("IllegalStateException", "IllegalArgumentException",
        "IndexOutOfBoundsException", "ArithmeticException", "UnsupportedOperationException", "NoSuchElementException");
    private static final Set<String> CALLS = Set.of("System.arraycopy", "Arrays.copyOf", "Arrays.fill",
        "Integer.bitCount", "Math.min");
    private static final List<String> RULED_OUT = List.of("package", "protected", "catch", "finally", "synchronized",
        "assert", "native", "volatile", "transient", "yield", "var", "hashCode", "toString", "equals", "Float", "Double",
        "Object", "Thread", "Class", "Random");
    private static final List<String> SIGNS_RULED_OUT = List.of("->", "::", "@", "static {", "...");
    private static final int MOST_LINES = 60;
    private static final int MOST_CLASSES = 12;
    private static final int MOST_FIELDS = 20;

    private LanguageTest() {
    }

    public static void main(String[] args) throws IOException {
        String whole = Files.readString(Path.of(SOURCE));
        String code = withoutComments(whole);
        String bare = code.replaceAll("\"[^\"\n]*\"", "\"\"").replaceAll("'[^'\n]'", "' '");
        CHECK.isTrue("rule 3: signs 1 to 127 alone", whole.chars().allMatch(sign -> sign > 0 && sign < 128));
        allAreIn("rule 4: import", "import (?:static )?([\\w.*]+);", bare, IMPORTS);
        allAreIn("rule 4: call", "\\b((?:System|Arrays|Integer|Long|Math)\\.\\w+)", bare, CALLS);
        allAreIn("rule 6: throw", "\\bthrow (?:new )?(\\w+)", bare, EXCEPTIONS);
        CHECK.due("rule 6: throws with a written text alone", count("\\bthrow\\b", bare),
            count("throw new \\w+\\((?:\"\")?\\);", bare));
        for (String word : RULED_OUT) {
            CHECK.due("the word " + word, count("\\b" + word + "\\b", bare), 0);
        }
        for (String signs : SIGNS_RULED_OUT) {
            CHECK.due("the signs " + signs, count(Pattern.quote(signs), bare), 0);
        }
        CHECK.due("rule 5: static fields that are not final",
            count("(?m)^ +(?:private )?static (?!final)[\\w\\[\\]]+ \\w+ *[=;]", bare), 0);
        CHECK.due("rule 10: texts joined by +", count("\"\" *\\+|\\+ *\"\"", bare), 0);
        int classes = count("\\b(?:class|interface|enum|record) \\w+", bare);
        CHECK.isTrue("rule 11: classes: " + classes, classes <= MOST_CLASSES);
        fieldsOfClasses(bare);
        methodsAreShort(bare);
        CHECK.end();
    }

    private static String withoutComments(String text) {
        return text.replaceAll("(?s)/\\*.*?\\*/", "").replaceAll("//[^\n]*", "");
    }

    private static void allAreIn(String what, String pattern, String text, Set<String> allowed) {
        Set<String> others = new TreeSet<>();
        Matcher matcher = Pattern.compile(pattern).matcher(text);
        while (matcher.find()) {
            others.add(matcher.group(1));
        }
        others.removeAll(allowed);
        CHECK.due(what, others.toString(), "[]");
    }

    private static int count(String pattern, String text) {
        Matcher matcher = Pattern.compile(pattern).matcher(text);
        int found = 0;
        while (matcher.find()) {
            found++;
        }
        return found;
    }

    private static void fieldsOfClasses(String text) {
        for (String part : text.split("\\bclass ")) {
            int fields = count("(?m)^ {4,8}private (?!static)(?:final )?[\\w\\[\\]]+ \\w+( =[^;]*)?;", part);
            CHECK.isTrue("rule 11: fields of " + part.split(" ")[0] + ": " + fields, fields <= MOST_FIELDS);
        }
    }

    private static void methodsAreShort(String text) {
        Pattern method = Pattern.compile("(?ms)^( {4,8})(?:[\\w\\[\\]]+ )*\\w+\\(([^)]*)\\)[^;{]*\\{\n(.*?)^\\1\\}");
        Matcher matcher = method.matcher(text);
        int methods = 0;
        while (matcher.find()) {
            methods++;
            String head = matcher.group().lines().findFirst().orElse("").strip();
            CHECK.isTrue("rule 11: lines of " + head, matcher.group(3).lines().count() <= MOST_LINES);
            CHECK.isTrue("rule 11: parameters of " + head, matcher.group(2).split(",").length <= 7);
        }
        CHECK.isTrue("methods are seen: " + methods, methods > 120);
    }
}
