/** Lines that the scripts begin with; Works tells the same works as calls. */
final class Lines {
    /** One dry resin of shrinking 10, a lot of it, a machine and a setter of skill 1. */
    static final String BEGUN = """
        resin 3 10 50 2 300 false
        lot 0 100000 0
        machine 200 500 20 40
        setter 1
        """;

    static final String MOUNTED = """
        mount 0 0 0
        setting 0 20 10 5
        purge 0 0 0 = 20
        feed 0 0 100
        """;

    /** Two cavities of one cell of 5 grams: a shot takes 12 grams and 31 ticks, parts shrink by 950. */
    static final String TWO = BEGUN + """
        tool 1 100 false false 400
        cell 0 0 5 3 0 0
        cell 0 0 5 3 0 1
        """ + MOUNTED;

    static final String SLIDES = TWO.replace("100 false", "100 true");

    /** The parts of the cavity 1 are bad: its cell of 50 grams freezes with 2 in it. */
    static final String BAD = BEGUN + """
        tool 1 100 false false 9999
        cell 0 0 5 3 0 0
        cell 0 0 50 1 0 1
        """ + MOUNTED;

    static final String OUT = "act 0 f; act 0 t; act 0 b\n";
    static final String PRESS = "shot 0; " + OUT;
    static final String OUT_WITH_SLIDES = "act 0 o; act 0 f; act 0 t; act 0 b; act 0 i\n";

    private Lines() {
    }

    static String times(int n, String line) {
        return n + " * " + line;
    }
}
