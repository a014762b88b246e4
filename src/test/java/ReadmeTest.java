import java.io.ByteArrayOutputStream;
import java.io.PrintStream;
import java.net.URI;
import java.net.URL;
import java.net.URLClassLoader;
import java.nio.file.Files;
import java.nio.file.Path;
import java.util.List;
import java.util.regex.Matcher;
import java.util.regex.Pattern;
import javax.tools.JavaCompiler;
import javax.tools.SimpleJavaFileObject;
import javax.tools.ToolProvider;

/** The example of README.md compiles, and prints what the remarks behind its lines say. */
public final class ReadmeTest {
    private static final Pattern PRINTED = Pattern.compile("System\\.out\\.println\\(.*\\); *// (.*)");

    private static final class Source extends SimpleJavaFileObject {
        private final String text;

        Source(String text) {
            super(URI.create("string:///Example.java"), Kind.SOURCE);
            this.text = text;
        }

        @Override
        public CharSequence getCharContent(boolean ignoreErrors) {
            return text;
        }
    }

    public static void main(String[] none) throws Exception {
        String example = exampleOf(Files.readString(Path.of("README.md")));
        StringBuilder due = new StringBuilder();
        Matcher printed = PRINTED.matcher(example);
        while (printed.find()) {
            due.append(printed.group(1).trim()).append('\n');
        }
        String got = run("public final class Example { public static void main(String[] none) {\n" + example + "}}");
        if (due.length() == 0 || !got.equals(due.toString())) {
            System.out.println("the example of README.md printed:\n" + got + "due is:\n" + due);
            System.exit(1);
        }
        System.out.println("the example of README.md holds");
    }

    private static String exampleOf(String readme) {
        int start = readme.indexOf("```java\n");
        int end = readme.indexOf("```\n", start + 8);
        if (start < 0 || end < 0) {
            throw new IllegalStateException("README.md has no example");
        }
        return readme.substring(start + 8, end);
    }

    private static String run(String text) throws Exception {
        Path out = Files.createTempDirectory("readme");
        try {
            compile(text, out);
            return printedBy(out);
        } finally {
            Files.deleteIfExists(out.resolve("Example.class"));
            Files.delete(out);
        }
    }

    private static void compile(String text, Path out) {
        JavaCompiler compiler = ToolProvider.getSystemJavaCompiler();
        List<String> options = List.of("-cp", System.getProperty("java.class.path"), "-d", out.toString());
        if (!compiler.getTask(null, null, null, options, null, List.of(new Source(text))).call()) {
            throw new IllegalStateException("the example of README.md does not compile");
        }
    }

    private static String printedBy(Path out) throws Exception {
        PrintStream before = System.out;
        ByteArrayOutputStream printed = new ByteArrayOutputStream();
        try (URLClassLoader loader = new URLClassLoader(new URL[] {out.toUri().toURL()})) {
            System.setOut(new PrintStream(printed));
            loader.loadClass("Example").getMethod("main", String[].class).invoke(null, (Object) new String[0]);
        } finally {
            System.setOut(before);
        }
        return printed.toString().replace("\r", "");
    }
}
