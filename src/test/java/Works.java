/** Works that the tests begin with. */
final class Works {
    static final Class<IllegalArgumentException> ARGUMENT = IllegalArgumentException.class;
    static final Class<IllegalStateException> STATE = IllegalStateException.class;
    static final Class<IndexOutOfBoundsException> INDEX = IndexOutOfBoundsException.class;
    static final Class<UnsupportedOperationException> UNSUPPORTED = UnsupportedOperationException.class;
    static final Class<java.util.NoSuchElementException> NONE = java.util.NoSuchElementException.class;
    static final Class<ArithmeticException> ARITHMETIC = ArithmeticException.class;

    private Works() {
    }

    /** One dry resin of shrinking 10, a lot of it, a machine and a setter of skill 1. */
    static Gatemark begun() {
        Gatemark x = new Gatemark();
        x.resin(3, 10, 50, 2, 300, false);
        x.lot(0, 100000, 0);
        x.machine(200, 500, 20, 40);
        x.setter(1);
        return x;
    }

    /**
     * Two cavities of one cell each. A shot takes 12 grams: the cell 0 is full in tick 1, the others
     * in tick 2, filling ends with tick 3, the cells freeze in 26, 11 and 11, so it takes 26 + 5 ticks.
     */
    static Gatemark twoCavities(boolean hasSlides) {
        Gatemark x = begun();
        x.tool(1, 100, hasSlides, false, 400);
        x.cell(0, 0, 5, 3, 0, 0);
        x.cell(0, 0, 5, 3, 0, 1);
        return mounted(x);
    }

    /** The cavity 1 has a thin cell of 50 grams that freezes with 2 in it: its parts are bad. */
    static Gatemark badCavity() {
        Gatemark x = begun();
        x.tool(1, 100, false, false, 9999);
        x.cell(0, 0, 5, 3, 0, 0);
        x.cell(0, 0, 50, 1, 0, 1);
        return mounted(x);
    }

    static Gatemark mounted(Gatemark x) {
        x.mount(0, 0, 0);
        x.setting(0, 20, 10, 5);
        x.purge(0, 0, 0);
        x.feed(0, 0, 100);
        return x;
    }

    /** Makes a shot and takes its parts out, of a tool without slides. */
    static void press(Gatemark x, int machine) {
        x.shot(machine);
        x.act(machine, 'f');
        x.act(machine, 't');
        x.act(machine, 'b');
    }

    /** A shot whose parts shrink by 1000 less 5 times the pressure, of twoCavities. */
    static void pressAt(Gatemark x, int pressure) {
        x.setting(0, 20, pressure, 5);
        press(x, 0);
    }
}
