import java.lang.reflect.InvocationTargetException;
import java.lang.reflect.Method;
import java.util.ArrayList;
import java.util.HashMap;
import java.util.List;
import java.util.Map;
import java.util.Set;
import java.util.TreeSet;

/**
 * Runs calls that are written as lines on a new object, and looks that what is refused changed nothing.
 *
 * <p>A line is a call with its arguments, then the answer that is due ("= 5") or the exception that is
 * due ("! state"); with neither, any answer will do, but no exception. "24 * lot 0 1 0 = 0.." makes the
 * call 24 times, with answers that rise from 0. Calls without answers may stand in one line, parted by
 * ";". MIN and MAX are the least and the greatest int, @65 is the sign of that number, and what stands
 * behind "#" is a comment.
 */
final class Script {
    /** The document promises nothing of an object behind so many calls. */
    static final int MOST_CALLS = 512;

    private static final Map<String, Method> CALLS = new HashMap<>();
    static final Map<String, String> SHORT = Map.of(
        "IndexOutOfBoundsException", "index", "IllegalArgumentException", "argument",
        "NoSuchElementException", "none", "UnsupportedOperationException", "unsupported",
        "IllegalStateException", "state", "ArithmeticException", "arithmetic");

    static {
        for (Method m : Gatemark.class.getMethods()) {
            if (m.getDeclaringClass() == Gatemark.class) {
                CALLS.put(m.getName(), m);
            }
        }
    }

    /** What was due of all lines so far: "lot =" was answered, "lot ! state" was refused. */
    static final Set<String> SEEN = new TreeSet<>();

    /** A call, and what is due: "= answer", "! exception", "=" for any answer. */
    record Step(String text, Method call, Object[] args, String due) {
        boolean isRefused() {
            return due.startsWith("!");
        }

        String name() {
            return call.getName();
        }
    }

    private Script() {
    }

    /** Runs the lines, and compares each answer with the one that is due. */
    static void run(Check check, String title, String... texts) {
        List<Step> steps = parse(String.join("\n", texts));
        check.is(title + ": calls above 512", Math.max(steps.size(), MOST_CALLS), MOST_CALLS);
        Gatemark x = new Gatemark();
        for (Step s : steps) {
            String got = outcome(x, s);
            boolean isRight = s.due.equals("=") ? got.startsWith("=") : got.equals(s.due);
            check.is(title + ": " + s.text, isRight ? s.due : got, s.due);
            SEEN.add(s.name() + " " + (s.isRefused() ? s.due : "="));
        }
        for (int i = 0; i < steps.size(); i++) {
            boolean isLastOfRefused = i + 1 == steps.size() || !steps.get(i + 1).isRefused();
            if (steps.get(i).isRefused() && isLastOfRefused) {
                changesNothing(check, title, steps.subList(0, i + 1));
            }
        }
    }

    /**
     * Tries the edges of a call behind some lines: "<0..3>" is a number of things that are there, from the
     * first to the last, "[1..9]" a range. The least and the greatest are answered, one less and one more
     * are refused, a wrong number of a thing ahead of a wrong range.
     */
    static void edges(Check check, String title, String begin, String call) {
        String[] words = call.split(" ");
        StringBuilder refused = new StringBuilder();
        for (int i = 1; i < words.length; i++) {
            for (String inside : inside(words[i])) {
                run(check, title, begin, with(words, i, inside, 0));
                run(check, title, begin, with(words, i, inside, 1));
            }
            for (String outside : outside(words[i])) {
                for (int end = 0; end < 2; end++) {
                    String line = with(words, i, outside, end);
                    refused.append(line).append(words[i].startsWith("<") ? " ! index\n" : " ! argument\n");
                }
                for (int j = 1; j < words.length; j++) {
                    if (words[i].startsWith("<") && words[j].startsWith("[")) {
                        String[] both = with(words, i, outside, 0).split(" ");
                        both[j] = outside(words[j]).get(0);
                        refused.append(String.join(" ", both)).append(" ! index\n");
                    }
                }
            }
        }
        run(check, title, begin, refused.toString());
    }

    private static long[] ends(String word) {
        String[] two = word.substring(1, word.length() - 1).split("\\.\\.");
        return new long[] {Long.parseLong(two[0]), Long.parseLong(two[1])};
    }

    private static boolean isEdged(String word) {
        return word.startsWith("<") || word.startsWith("[");
    }

    private static List<String> inside(String word) {
        return isEdged(word) ? List.of("" + ends(word)[0], "" + ends(word)[1]) : List.of();
    }

    private static List<String> outside(String word) {
        return isEdged(word) ? List.of("" + (ends(word)[0] - 1), "" + (ends(word)[1] + 1), "MIN", "MAX") : List.of();
    }

    private static String with(String[] words, int at, String value, int end) {
        String[] all = words.clone();
        for (int i = 1; i < all.length; i++) {
            all[i] = i == at ? value : isEdged(all[i]) ? "" + ends(all[i])[end] : all[i];
        }
        return String.join(" ", all);
    }

    // ---- lines

    static List<Step> parse(String text) {
        List<Step> steps = new ArrayList<>();
        for (String whole : text.split("\n")) {
            String line = whole.replaceAll("(^|\\s)#.*", "").trim();
            int times = 1;
            if (line.matches("\\d+ \\* .*")) {
                times = Integer.parseInt(line.substring(0, line.indexOf(' ')));
                line = line.substring(line.indexOf('*') + 1).trim();
            }
            for (int i = 0; i < times && !line.isEmpty(); i++) {
                for (String part : line.split(";")) {
                    steps.add(step(part.trim(), i));
                }
            }
        }
        return steps;
    }

    private static Step step(String line, int nth) {
        String call = line;
        String due = "=";
        for (String sign : List.of(" = ", " ! ")) {
            int at = line.indexOf(sign);
            if (at >= 0) {
                call = line.substring(0, at).trim();
                due = line.substring(at).trim();
            }
        }
        if (due.endsWith("..")) {
            due = "= " + (Integer.parseInt(due.substring(2, due.length() - 2)) + nth);
        }
        String[] words = call.split(" +");
        Method method = CALLS.get(words[0]);
        if (method == null || method.getParameterCount() != words.length - 1) {
            throw new IllegalArgumentException("no such call: " + line);
        }
        Object[] args = new Object[words.length - 1];
        for (int i = 0; i < args.length; i++) {
            args[i] = argument(words[i + 1], method.getParameterTypes()[i]);
        }
        return new Step(line, method, args, due);
    }

    private static Object argument(String word, Class<?> type) {
        if (type == boolean.class) {
            return Boolean.parseBoolean(word);
        }
        if (type == char.class) {
            return word.length() == 1 ? word.charAt(0) : (char) Integer.parseInt(word.substring(1));
        }
        return word.equals("MIN") ? Integer.MIN_VALUE : word.equals("MAX") ? Integer.MAX_VALUE : Integer.parseInt(word);
    }

    static String outcome(Gatemark x, Step s) {
        try {
            return "= " + s.call.invoke(x, s.args);
        } catch (InvocationTargetException e) {
            String name = e.getCause().getClass().getSimpleName();
            return "! " + SHORT.getOrDefault(name, name);
        } catch (IllegalAccessException e) {
            throw new IllegalStateException(e);
        }
    }

    // ---- what is refused changes nothing

    private static void changesNothing(Check check, String title, List<Step> with) {
        List<Step> without = with.stream().filter(s -> !s.isRefused()).toList();
        String last = with.get(with.size() - 1).text;
        for (List<Step> probe : Probe.of(without, MOST_CALLS - with.size())) {
            String got = behind(with, probe);
            String want = behind(without, probe);
            check.is(title + ": behind " + last, got, want);
        }
    }

    private static String behind(List<Step> calls, List<Step> probe) {
        Gatemark x = new Gatemark();
        for (Step s : calls) {
            outcome(x, s);
        }
        StringBuilder all = new StringBuilder();
        for (Step s : probe) {
            all.append(s.text).append(' ').append(outcome(x, s)).append("; ");
        }
        return all.toString();
    }
}
