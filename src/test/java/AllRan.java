import java.io.IOException;
import java.nio.file.Files;
import java.nio.file.Path;
import java.util.Set;
import java.util.TreeSet;
import java.util.stream.Stream;

/** Looks that .ci/run, the command of README.md, ran each file that has a main: it is told which it ran. */
public final class AllRan {
    private static final Check C = new Check("tests that ran");

    public static void main(String[] args) throws IOException {
        Set<String> ran = new TreeSet<>(Files.readAllLines(Path.of(args[0])));
        Set<String> shared = withMain("../shared/tests");
        Set<String> own = withMain("src/test/java");
        own.remove("src/test/java/AllRan.java");
        C.is("there are shared tests", shared.isEmpty(), false);
        C.is("there are tests of the project", own.isEmpty(), false);
        for (String test : shared) {
            C.is(test + " ran", ran.contains(test), true);
        }
        for (String test : own) {
            C.is(test + " ran", ran.contains(test), true);
        }
        C.is("how many ran", ran.size(), shared.size() + own.size());
        C.end();
    }

    private static Set<String> withMain(String directory) throws IOException {
        Set<String> all = new TreeSet<>();
        try (Stream<Path> files = Files.walk(Path.of(directory))) {
            for (Path file : files.filter(f -> f.toString().endsWith(".java")).toList()) {
                if (Files.readString(file).contains("public static void main(String[] ")) {
                    all.add(file.toString());
                }
            }
        }
        return all;
    }
}
