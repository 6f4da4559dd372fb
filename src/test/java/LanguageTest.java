import java.io.IOException;
import java.nio.file.Files;
import java.nio.file.Path;
import java.util.List;
import java.util.regex.Pattern;
import java.util.regex.MatchResult;

/**
 * The rules of LANGUAGE.md that can be seen in the program's text, looked for where the test is started. The program does
 * without much that the rules would allow (no try at all, no list, no text), so the test allows no more than it needs.
 */
public final class LanguageTest {
    private static final String ALLOWED_EXCEPTIONS = "IllegalStateException|IllegalArgumentException|IndexOutOfBoundsException"
            + "|ArithmeticException|UnsupportedOperationException|NoSuchElementException|RuntimeException";
    private static final Pattern METHOD = Pattern.compile("(?m)^( +)[\\w\\[\\] ]+\\(([^()]*)\\)[^;={}]*\\{\n(.*?)^\\1\\}", Pattern.DOTALL);

    public static void main(String[] args) throws IOException {
        String source = Files.readString(Path.of("src", "main", "java", "TimestampScheduler.java"));
        String code = source.replaceAll("(?s)/\\*.*?\\*/|//[^\n]*", "");
        everyCharacterIsPlain(source);
        nothingForbidden(code);
        exceptions(code);
        library(code);
        sizes(code);
        Script.end();
    }

    private static void everyCharacterIsPlain(String source) {
        Script.expect("signs 10 and 32 to 126 alone: this", source.chars().allMatch(sign -> sign == 10 || sign >= 32 && sign <= 126));
    }

    private static void nothingForbidden(String code) {
        for (String word : List.of("package", "try", "catch", "finally", "synchronized", "assert", "instanceof", "Object",
                "String", "List", "Float", "Double", "Random", "Thread", "NaN", "volatile", "native", "var")) {
            Script.expect("no " + word + ": this", !Pattern.compile("\\b" + word + "\\b").matcher(code).find());
        }
        for (String sign : List.of("->", "::", "Exact", "System.currentTimeMillis", "System.nanoTime", "static {", "[][]", "@")) {
            Script.expect("no " + sign + ": this", !code.contains(sign));
        }
    }

    private static void exceptions(String code) {
        long thrown = Pattern.compile("\\bthrow\\b").matcher(code).results().count();
        long allowed = Pattern.compile("\\bthrow new (?:" + ALLOWED_EXCEPTIONS + ")\\((?:\"[^\"]*\")?\\);").matcher(code).results().count();
        Script.expect("rule 6: exceptions of the list with a written text: this", thrown > 0 && thrown == allowed);
    }

    private static void library(String code) {
        Script.expect("one import: this", Pattern.compile("\\bimport\\b").matcher(code).results().count() == 1
                && code.contains("import java.util.NoSuchElementException;"));
        for (MatchResult used : Pattern.compile("\\b(?:System|Math|Integer|Long|Arrays)\\.\\w+").matcher(code).results().toList()) {
            boolean allowed = List.of("System.arraycopy", "Math.min", "Integer.MIN_VALUE", "Integer.MAX_VALUE").contains(used.group());
            Script.expect("rule 4: " + used.group() + ": this", allowed);
        }
    }

    private static void sizes(String code) {
        long classes = Pattern.compile("\\b(?:class|record|enum|interface) \\w+").matcher(code).results().count();
        Script.expect("rule 11: at most twelve classes: this", classes <= 12);
        List<MatchResult> methods = METHOD.matcher(code.replaceAll("(?m)^(    private static final|public final) class.*$", ""))
                .results().toList();
        Script.expect("the methods are found: this", methods.size() > 80);
        for (MatchResult method : methods) {
            String head = method.group().lines().findFirst().orElse("");
            Script.expect("rule 11: at most seven parameters: " + head, method.group(2).split(",").length <= 7);
            Script.expect("rule 11: at most sixty lines: " + head, method.group(3).lines().count() <= 60);
        }
    }
}
