import java.io.IOException;
import java.lang.reflect.Method;
import java.lang.reflect.Modifier;
import java.net.URI;
import java.net.URL;
import java.net.URLClassLoader;
import java.nio.file.Files;
import java.nio.file.Path;
import java.util.Comparator;
import java.util.List;
import java.util.Set;
import java.util.TreeSet;
import java.util.concurrent.Callable;
import java.util.regex.Matcher;
import java.util.regex.Pattern;
import java.util.stream.Stream;
import javax.tools.JavaCompiler;
import javax.tools.JavaFileObject;
import javax.tools.SimpleJavaFileObject;
import javax.tools.ToolProvider;

/**
 * README.md, looked for where the test is started: its Java lines are compiled and run as they stand, and each call answers
 * what its comment says first, up to ": ". A call at the beginning of a line must have such a comment.
 */
public final class ReadmeTest {
    private static final Pattern BLOCK = Pattern.compile("```java\n(.*?)```", Pattern.DOTALL);
    private static final Pattern CALL = Pattern.compile("(int (\\w+) = )?(bench\\.\\w+\\(.*\\));(?:\\s*// (.+?)(?:: .*)?)?");
    private static final Pattern TEST_NAME = Pattern.compile("`(\\w+Test)`");
    private static final String CLASS_NAME = "ReadmeCalls";

    public static void main(String[] args) throws Exception {
        String readme = Files.readString(Path.of("README.md"));
        runCalls(readme);
        everyMethodIsShown(readme);
        everyTestIsNamed(readme);
        Script.end();
    }

    private static void runCalls(String readme) throws Exception {
        StringBuilder source = new StringBuilder("final class " + CLASS_NAME + " {\n");
        int blocks = 0;
        for (Matcher matcher = BLOCK.matcher(readme); matcher.find(); blocks++) {
            source.append("static void block").append(blocks).append("() {\n");
            matcher.group(1).lines().forEach(line -> source.append(checkedLine(line)).append('\n'));
            source.append("}\n");
        }
        Script.expect("README.md shows calls", blocks > 0);
        Path directory = Files.createTempDirectory("readme");
        try {
            if (compile(source.append("}\n").toString(), directory)) {
                runBlocks(directory, blocks);
            }
        } finally {
            remove(directory);
        }
    }

    /** Lines that are no call of their own stay as they are. */
    private static String checkedLine(String line) {
        Matcher matcher = CALL.matcher(line);
        if (!matcher.matches()) {
            return line;
        }
        Script.expect("an answer behind " + line, matcher.group(4) != null);
        String declaration = matcher.group(2) == null ? "" : "final " + line + "\n";
        String asked = matcher.group(2) == null ? matcher.group(3) : matcher.group(2);
        return declaration + "ReadmeTest.due(" + quoted(matcher.group(3)) + ", () -> " + asked + ", " + quoted(matcher.group(4)) + ");";
    }

    private static String quoted(String text) {
        return '"' + String.valueOf(text).replace("\\", "\\\\").replace("\"", "\\\"") + '"';
    }

    private static boolean compile(String source, Path directory) {
        JavaFileObject file = new SimpleJavaFileObject(URI.create("string:///" + CLASS_NAME + ".java"), JavaFileObject.Kind.SOURCE) {
            @Override
            public CharSequence getCharContent(boolean ignoreEncodingErrors) {
                return source;
            }
        };
        JavaCompiler compiler = ToolProvider.getSystemJavaCompiler();
        List<String> options = List.of("-d", directory.toString(), "-cp", System.getProperty("java.class.path"));
        boolean compiled = compiler.getTask(null, null, null, options, null, List.of(file)).call();
        Script.expect("README.md's lines compile: this", compiled);
        return compiled;
    }

    private static void runBlocks(Path directory, int blocks) throws Exception {
        try (URLClassLoader loader = new URLClassLoader(new URL[] {directory.toUri().toURL()})) {
            Class<?> calls = loader.loadClass(CLASS_NAME);
            for (int block = 0; block < blocks; block++) {
                Method method = calls.getDeclaredMethod("block" + block);
                method.setAccessible(true);
                method.invoke(null);
            }
        }
    }

    private static void remove(Path directory) throws IOException {
        try (Stream<Path> paths = Files.walk(directory)) {
            for (Path path : paths.sorted(Comparator.reverseOrder()).toList()) {
                Files.delete(path);
            }
        }
    }

    /** Called by the compiled lines, which another loader has loaded; so it is public. */
    public static void due(String call, Callable<Object> asked, String answer) {
        String got;
        try {
            got = String.valueOf(asked.call());
        } catch (Exception exception) {
            got = "throws " + exception.getClass().getSimpleName();
        }
        String due = answer.equals("ABORTED") ? String.valueOf(TimestampScheduler.ABORTED) : answer;
        Script.expect("README.md: " + call + " answers " + due + ", and not " + got + ": this", got.equals(due));
    }

    /** For a call without an answer. */
    public static void due(String call, Runnable asked, String answer) {
        due(call, () -> {
            asked.run();
            return "nothing";
        }, answer);
    }

    private static void everyMethodIsShown(String readme) {
        for (Method method : TimestampScheduler.class.getDeclaredMethods()) {
            boolean isShown = BLOCK.matcher(readme).results().anyMatch(block -> block.group(1).contains("bench." + method.getName() + "("));
            Script.expect("README.md shows " + method.getName() + ": this", !Modifier.isPublic(method.getModifiers()) || isShown);
        }
    }

    private static void everyTestIsNamed(String readme) throws IOException {
        Set<String> named = new TreeSet<>();
        TEST_NAME.matcher(readme).results().forEach(result -> named.add(result.group(1)));
        Set<String> present = new TreeSet<>();
        try (Stream<Path> paths = Files.list(Path.of("src", "test", "java"))) {
            paths.map(path -> path.getFileName().toString()).filter(name -> name.endsWith("Test.java"))
                    .forEach(name -> present.add(name.substring(0, name.length() - ".java".length())));
        }
        Script.expect("README.md names " + named + ", and there are " + present + ": this", named.equals(present));
    }
}
