import java.io.IOException;
import java.lang.reflect.Constructor;
import java.lang.reflect.Executable;
import java.lang.reflect.Field;
import java.lang.reflect.Method;
import java.lang.reflect.Modifier;
import java.nio.file.Files;
import java.nio.file.Path;
import java.util.ArrayList;
import java.util.List;
import java.util.Set;
import java.util.TreeSet;
import java.util.regex.Matcher;
import java.util.regex.Pattern;

/** What can be seen of LANGUAGE.md and of the public face in the text and the classes of Gatemark. */
public final class LanguageTests {
    private static final Check C = new Check("language");

    public static void main(String[] args) throws IOException {
        String text = Files.readString(Path.of("src/main/java/Gatemark.java"));
        face(Files.readString(Path.of("../shared/DOC.md")));
        hidesTheRest();
        classes();
        words(withoutComments(text));
        lengths(text);
        C.end();
    }

    private static void face(String doc) {
        Set<String> due = new TreeSet<>();
        Matcher line = Pattern.compile("^    public (.*);$", Pattern.MULTILINE).matcher(doc);
        while (line.find()) {
            due.add(line.group(1).replaceAll("\\b(int|char|boolean) \\w+(?=[,)])", "$1"));
        }
        Set<String> got = new TreeSet<>();
        for (Constructor<?> c : Gatemark.class.getConstructors()) {
            got.add(told("Gatemark", c));
        }
        for (Method m : Gatemark.class.getDeclaredMethods()) {
            if (Modifier.isPublic(m.getModifiers())) {
                got.add(told(m.getReturnType() + " " + m.getName(), m));
            }
        }
        C.is("calls of the face", due.size(), 50);
        for (String call : due) {
            C.is("the face has " + call, got.contains(call), true);
        }
        C.is("calls that are public", got.size(), due.size());
    }

    private static String told(String name, Executable e) {
        List<String> types = new ArrayList<>();
        for (Class<?> type : e.getParameterTypes()) {
            types.add(type.getSimpleName());
        }
        List<String> thrown = new ArrayList<>();
        for (Class<?> type : e.getExceptionTypes()) {
            thrown.add(type.getSimpleName());
        }
        String all = name + "(" + String.join(", ", types) + ")";
        return thrown.isEmpty() ? all : all + " throws " + String.join(", ", thrown);
    }

    private static void hidesTheRest() {
        Set<String> open = new TreeSet<>();
        for (Method m : Gatemark.class.getDeclaredMethods()) {
            if (Modifier.isPublic(m.getModifiers())) {
                open.add(m.getName());
            } else {
                C.is(m.getName() + " is private", Modifier.isPrivate(m.getModifiers()), true);
            }
        }
        for (Method m : Gatemark.class.getDeclaredMethods()) {
            if (!Modifier.isPublic(m.getModifiers())) {
                C.is(m.getName() + " bears the name of a public one", open.contains(m.getName()), false);
            }
        }
        for (Class<?> inside : Gatemark.class.getDeclaredClasses()) {
            for (Method m : inside.getDeclaredMethods()) {
                C.is(inside.getSimpleName() + "." + m.getName() + " bears a public name",
                    open.contains(m.getName()), false);
            }
        }
        for (Field f : Gatemark.class.getDeclaredFields()) {
            C.is(f.getName() + " is private", Modifier.isPrivate(f.getModifiers()), true);
        }
    }

    private static void classes() {
        List<Class<?>> all = new ArrayList<>(List.of(Gatemark.class.getDeclaredClasses()));
        C.is("Gatemark is final", Modifier.isFinal(Gatemark.class.getModifiers()), true);
        for (Class<?> inside : all) {
            C.is(inside + " is static", Modifier.isStatic(inside.getModifiers()), true);
            C.is(inside + " is private", Modifier.isPrivate(inside.getModifiers()), true);
        }
        all.add(Gatemark.class);
        C.is("some twelve classes", all.size() <= 12, true);
        for (Class<?> c : all) {
            int fields = 0;
            for (Field f : c.getDeclaredFields()) {
                boolean isStatic = Modifier.isStatic(f.getModifiers());
                fields += isStatic ? 0 : 1;
                C.is(f + " is no static state", isStatic && !Modifier.isFinal(f.getModifiers()), false);
            }
            C.is("some twenty fields of " + c, fields <= 20, true);
            for (Method m : c.getDeclaredMethods()) {
                C.is("seven parameters of " + m, m.getParameterCount() <= 7, true);
            }
            for (Constructor<?> k : c.getDeclaredConstructors()) {
                C.is("seven parameters of " + k, k.getParameterCount() <= 7, true);
            }
        }
    }

    private static String withoutComments(String text) {
        return text.replaceAll("(?s)/\\*.*?\\*/", "").replaceAll("//[^\n]*", "");
    }

    private static void words(String text) {
        for (String word : List.of("->", "::", "synchronized", "assert ", "finally", "try ", "catch", "switch",
                "package ", "System.", "String.", "Float", "Double", "Exact(", "while (true)", "for (;;)",
                "instanceof", "Object", "equals(", "hashCode", "toString", "@")) {
            C.is("the text has '" + word + "'", text.contains(word), false);
        }
        Matcher imports = Pattern.compile("^import .*$", Pattern.MULTILINE).matcher(text);
        while (imports.find()) {
            C.is("an import", imports.group(), "import java.util.NoSuchElementException;");
        }
        Matcher library = Pattern.compile("\\b(Math|Integer|Long)\\.(\\w+)").matcher(text);
        while (library.find()) {
            C.is("the library's " + library.group(),
                Set.of("Math.max", "Math.min", "Math.abs", "Integer.bitCount").contains(library.group()), true);
        }
        C.is("signs above 127", text.chars().anyMatch(c -> c > 127), false);
    }

    private static void lengths(String text) {
        int length = 0;
        String begun = "";
        for (String line : text.split("\n")) {
            length++;
            if (line.matches("( {4}| {8})(public|private) .*[({,]") || line.matches("( {4}| {8})}")) {
                C.is("a method of " + length + " lines ahead of " + line + " behind " + begun, length <= 60, true);
                length = 0;
                begun = line;
            }
        }
    }
}
