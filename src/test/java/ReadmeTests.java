import java.io.ByteArrayOutputStream;
import java.io.IOException;
import java.io.PrintStream;
import java.lang.reflect.Method;
import java.lang.reflect.Modifier;
import java.net.URI;
import java.net.URL;
import java.net.URLClassLoader;
import java.nio.charset.StandardCharsets;
import java.nio.file.Files;
import java.nio.file.Path;
import java.util.List;
import java.util.Set;
import java.util.TreeSet;
import java.util.regex.Matcher;
import java.util.regex.Pattern;
import javax.tools.JavaCompiler;
import javax.tools.SimpleJavaFileObject;
import javax.tools.ToolProvider;

/** What README.md tells is so: its example, its texts, the calls in its tables, the constants, the folders and tests. */
public final class ReadmeTests {
    private static final Path PAGE = Path.of("README.md");
    private static final Path DOCUMENT = Path.of("../shared/DOC.md");
    private static final Due due = new Due();

    public static void main(String[] args) throws Exception {
        String page = Files.readString(PAGE);
        due.part("README.md");
        example(block(page, "```java\n"), block(page, "```text\n"));
        texts(page);
        calls(page);
        constants(page);
        tests(page);
        due.end();
    }

    private static String block(String page, String fence) {
        int from = page.indexOf(fence) + fence.length();
        due.holds("has a block " + fence.strip(), from >= fence.length());
        return page.substring(from, page.indexOf("```", from));
    }

    // ---- the example

    private static void example(String program, String prints) throws Exception {
        Path folder = Files.createTempDirectory("readme");
        SimpleJavaFileObject source = new SimpleJavaFileObject(URI.create("string:///Example.java"),
            javax.tools.JavaFileObject.Kind.SOURCE) {
            @Override
            public CharSequence getCharContent(boolean ignoreErrors) {
                return program;
            }
        };
        JavaCompiler compiler = ToolProvider.getSystemJavaCompiler();
        boolean isCompiled = compiler.getTask(null, null, null, List.of("-d", folder.toString(), "-proc:none"), null,
            List.of(source)).call();
        due.holds("the example compiles", isCompiled);
        if (isCompiled) {
            String printed = run(folder);
            due.holds("the example prints\n" + printed + "and not\n" + prints, printed.equals(prints));
        }
        Files.deleteIfExists(folder.resolve("Example.class"));
        Files.deleteIfExists(folder);
    }

    private static String run(Path folder) throws Exception {
        ByteArrayOutputStream bytes = new ByteArrayOutputStream();
        PrintStream ours = System.out;
        try (URLClassLoader loader = new URLClassLoader(new URL[] {folder.toUri().toURL()})) {
            Method main = loader.loadClass("Example").getMethod("main", String[].class);
            System.setOut(new PrintStream(bytes, true, StandardCharsets.UTF_8));
            main.invoke(null, (Object) new String[0]);
        } finally {
            System.setOut(ours);
        }
        return bytes.toString(StandardCharsets.UTF_8).replace("\r\n", "\n");
    }

    // ---- the tables

    private static void texts(String page) {
        Matcher row = Pattern.compile("(?m)^\\| `([^`]+)` \\| (-?[0-9]+) \\|").matcher(page);
        int rows = 0;
        for (; row.find(); rows++) {
            StrangerVotes x = new StrangerVotes();
            for (int i = 0; i < row.group(1).length(); i++) x.type(row.group(1).charAt(i));
            due.is("town() of \"" + row.group(1) + "\"", x.town(), Long.parseLong(row.group(2)));
        }
        due.holds("has rows of texts", rows >= 6);
    }

    /** Each call has a row with its parameters, and with what the document names in its promise, no more and no less. */
    private static void calls(String page) throws IOException {
        String document = Files.readString(DOCUMENT);
        for (Method method : StrangerVotes.class.getDeclaredMethods()) {
            if (!Modifier.isPublic(method.getModifiers())) continue;
            Matcher row = Pattern.compile("(?m)^\\| `" + method.getName() + "\\(([a-z, ]*)\\)` \\|.*$").matcher(page);
            boolean isFound = row.find();
            due.holds("has a row for " + method.getName(), isFound);
            if (!isFound) continue;
            Matcher promise = Pattern.compile("(?m)^`(int|long) " + method.getName() + "\\(([a-z, ]*)\\)`: .*$").matcher(document);
            due.holds("the document promises " + method.getName(), promise.find());
            due.holds("parameters of " + row.group(), row.group(1).equals(promise.group(2).replace("int ", "")));
            due.holds("what is refused in " + row.group(), answers(row.group()).equals(answers(promise.group())));
        }
    }

    private static Set<String> answers(String row) {
        Set<String> names = new TreeSet<>();
        Matcher word = Pattern.compile("\\b(BAD|STATE|FULL|NONE|NO)\\b").matcher(row);
        while (word.find()) names.add(word.group());
        return names;
    }

    private static void constants(String page) {
        for (String row : new String[] {"`BAD` (" + StrangerVotes.BAD + ":", "`STATE` (" + StrangerVotes.STATE + ":",
            "`FULL` (" + StrangerVotes.FULL + ":", "`NONE` (" + StrangerVotes.NONE + ")", "`NO` (" + StrangerVotes.NO + ")"}) {
            due.holds("tells " + row, page.replaceAll("\\s+", " ").contains(row));
        }
    }

    // ---- the tests

    private static void tests(String page) throws IOException {
        try (var files = Files.list(Path.of("src/test/java"))) {
            for (Path file : files.toList()) {
                String name = file.getFileName().toString().replace(".java", "");
                due.holds("tells of " + name, page.contains("`" + name + "`"));
            }
        }
        Matcher path = Pattern.compile("(src|\\.ci)/[A-Za-z/]+(\\.java)?").matcher(page);
        while (path.find()) due.holds("there is " + path.group(), Files.exists(Path.of(path.group())));
    }
}
