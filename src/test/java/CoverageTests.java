import java.lang.reflect.Method;

/** Runs all scripts of edges once more: each call of the face is answered there, and refused with each exception it lists. */
public final class CoverageTests {
    private static final Check C = new Check("coverage of the face");

    public static void main(String[] args) {
        ResinEdgeTests.main(args);
        ToolEdgeTests.main(args);
        MachineEdgeTests.main(args);
        ShotEdgeTests.main(args);
        PartEdgeTests.main(args);
        TermsEdgeTests.main(args);
        for (Method m : Gatemark.class.getMethods()) {
            if (m.getDeclaringClass() == Gatemark.class) {
                C.is(m.getName() + " is answered", Script.SEEN.contains(m.getName() + " ="), true);
                for (Class<?> thrown : m.getExceptionTypes()) {
                    String refused = m.getName() + " ! " + Script.SHORT.get(thrown.getSimpleName());
                    C.is(refused, Script.SEEN.contains(refused), true);
                }
            }
        }
        int refusals = (int) Script.SEEN.stream().filter(s -> s.contains("!")).count();
        int listed = 0;
        for (Method m : Gatemark.class.getMethods()) {
            listed += m.getDeclaringClass() == Gatemark.class ? m.getExceptionTypes().length : 0;
        }
        C.is("exceptions that are listed, and no others", refusals, listed);
        C.end();
    }
}
