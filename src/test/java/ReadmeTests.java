import java.io.File;
import java.io.IOException;
import java.io.StringWriter;
import java.net.URL;
import java.net.URLClassLoader;
import java.nio.file.Files;
import java.nio.file.Path;
import java.util.ArrayList;
import java.util.List;
import java.util.Set;
import java.util.TreeSet;
import java.util.regex.Matcher;
import java.util.regex.Pattern;
import java.util.stream.Stream;
import javax.tools.JavaCompiler;
import javax.tools.StandardJavaFileManager;
import javax.tools.ToolProvider;

/** Looks that README.md names all of the face, that its example answers as it says, and that its command is there. */
public final class ReadmeTests {
    private static final Check C = new Check("README.md");
    private static final String BEGIN = "Gatemark works = new Gatemark();";
    private static final Pattern SHOWN =
        Pattern.compile("(?:(?:int|long|char|boolean|float|double) (\\w+) = )?(works\\.(\\w+)\\(.*\\));\\s+// (answers|throws) (\\S+)( - .*)?");

    /** What the example is compiled with, so that 't' and 't' as a number are told apart. */
    private static final String TOLD = """
            private static String told(int x) { return "" + x; }
            private static String told(long x) { return "" + x; }
            private static String told(float x) { return "" + x; }
            private static String told(double x) { return "" + x; }
            private static String told(boolean x) { return "" + x; }
            private static String told(char x) { return "'" + x + "'"; }
        """;

    public static void main(String[] args) throws Exception {
        String readme = Files.readString(Path.of("README.md"));
        namesTheFace(readme, Files.readString(Path.of("../shared/DOC.md")));
        List<List<String>> blocks = blocks(readme);
        C.is("README.md shows an example", !blocks.isEmpty(), true);
        for (int i = 0; i < blocks.size(); i++) {
            answersAsShown("ReadmeExample" + i, blocks.get(i));
        }
        namesTheTests(section(readme, "How to run the tests"));
        C.end();
    }

    private static String section(String readme, String title) {
        int from = readme.indexOf("\n## " + title + "\n");
        C.is("README.md has a section " + title, from >= 0, true);
        int to = readme.indexOf("\n## ", from + 1);
        return from < 0 ? "" : readme.substring(from, to < 0 ? readme.length() : to);
    }

    // ---- the face

    private static void namesTheFace(String readme, String doc) {
        List<String> due = new ArrayList<>();
        Matcher line = Pattern.compile("^    public (.*?\\))( throws .*)?;$", Pattern.MULTILINE).matcher(doc);
        while (line.find()) {
            due.add(line.group(1));
        }
        List<String> named = new ArrayList<>();
        Matcher item = Pattern.compile("^- `([^`]*)` - \\S", Pattern.MULTILINE).matcher(section(readme, "The calls"));
        while (item.find()) {
            named.add(item.group(1));
        }
        C.is("constructors and methods of the face", due.size(), 50);
        C.is("what README.md names", String.join("\n", named), String.join("\n", due));
    }

    // ---- the example

    private static List<List<String>> blocks(String readme) {
        List<List<String>> all = new ArrayList<>();
        Matcher block = Pattern.compile("^```java\n(.*?)^```$", Pattern.MULTILINE | Pattern.DOTALL).matcher(readme);
        while (block.find()) {
            all.add(List.of(block.group(1).split("\n")));
        }
        return all;
    }

    private static void answersAsShown(String name, List<String> shown) throws Exception {
        StringBuilder asked = new StringBuilder();
        List<String[]> due = new ArrayList<>();
        for (String line : shown) {
            Matcher m = SHOWN.matcher(line.trim());
            if (m.matches()) {
                due.add(new String[] {line.trim(), m.group(5)});
                asked.append(m.group(4).equals("throws") ? refused(m.group(2)) : answered(m.group(1), line, m.group(2)));
            } else {
                C.is("a line of the example that tells no answer", line.trim(), BEGIN);
                asked.append(line).append('\n');
            }
        }
        C.is(name + " tells answers", !due.isEmpty(), true);
        String text = "import java.util.*;\npublic final class " + name + " {\n" + TOLD
            + "static void shown() {\n" + String.join("\n", shown) + "\n}\n"
            + "public static List<String> got() {\nList<String> got = new ArrayList<>();\n" + asked + "return got;\n}\n}\n";
        List<?> got = compiledAndRun(name, text);
        C.is(name + ": answers", got.size(), due.size());
        for (int i = 0; i < Math.min(got.size(), due.size()); i++) {
            C.is(due.get(i)[0], String.valueOf(got.get(i)), due.get(i)[1]);
        }
    }

    private static String answered(String variable, String line, String call) {
        String value = variable == null ? call : variable;
        return (variable == null ? "" : line + "\n") + "got.add(told(" + value + "));\n";
    }

    private static String refused(String call) {
        return "try { " + call + "; got.add(\"nothing\"); } "
            + "catch (RuntimeException e) { got.add(e.getClass().getSimpleName()); }\n";
    }

    private static List<?> compiledAndRun(String name, String text) throws Exception {
        Path out = Files.createTempDirectory("readme");
        Path source = out.resolve(name + ".java");
        Path compiled = out.resolve(name + ".class");
        Files.writeString(source, text);
        JavaCompiler compiler = ToolProvider.getSystemJavaCompiler();
        StringWriter faults = new StringWriter();
        try (StandardJavaFileManager files = compiler.getStandardFileManager(null, null, null)) {
            List<String> options = List.of("-d", out.toString(), "-cp", System.getProperty("java.class.path"));
            boolean isCompiled = compiler.getTask(faults, files, null, options, null,
                files.getJavaFileObjects(source.toFile())).call();
            C.is("faults of the example: " + faults, isCompiled, true);
            return isCompiled ? run(name, out) : List.of();
        } finally {
            for (Path left : List.of(compiled, source, out)) {
                Files.deleteIfExists(left);
            }
        }
    }

    private static List<?> run(String name, Path out) throws Exception {
        try (URLClassLoader loader = new URLClassLoader(new URL[] {out.toUri().toURL()})) {
            return (List<?>) loader.loadClass(name).getMethod("got").invoke(null);
        }
    }

    // ---- the tests

    private static void namesTheTests(String section) throws IOException {
        List<String> commands = new ArrayList<>();
        Matcher command = Pattern.compile("^    (\\S.*)$", Pattern.MULTILINE).matcher(section);
        while (command.find()) {
            commands.add(command.group(1));
        }
        C.is("the commands for the tests", String.join("; ", commands), ".ci/run");
        C.is(".ci/run can be run", new File(".ci/run").canExecute(), true);
        Set<String> named = new TreeSet<>();
        Matcher test = Pattern.compile("`(\\w+Tests)`").matcher(section);
        while (test.find()) {
            named.add(test.group(1));
        }
        Set<String> due = new TreeSet<>();
        try (Stream<Path> files = Files.list(Path.of("src/test/java"))) {
            files.map(f -> f.getFileName().toString()).filter(f -> f.endsWith("Tests.java"))
                .forEach(f -> due.add(f.replace(".java", "")));
        }
        C.is("the tests that README.md names", named.toString(), due.toString());
    }
}
