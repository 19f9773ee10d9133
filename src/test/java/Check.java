/** Counts what was asked and what was answered wrongly. */
final class Check {
    interface Call {
        void run();
    }

    private final String name;
    private int asked;
    private int wrong;

    Check(String name) {
        this.name = name;
    }

    void is(String what, long got, long want) {
        asked++;
        if (got != want) {
            tell(what + " answered " + got + ", due is " + want);
        }
    }

    void is(String what, double got, double want) {
        asked++;
        if (got != want) {
            tell(what + " answered " + got + ", due is " + want);
        }
    }

    void is(String what, boolean got, boolean want) {
        asked++;
        if (got != want) {
            tell(what + " answered " + got + ", due is " + want);
        }
    }

    void is(String what, String got, String want) {
        asked++;
        if (!got.equals(want)) {
            tell(what + " answered " + got + ", due is " + want);
        }
    }

    void fails(String what, Class<? extends RuntimeException> want, Call call) {
        asked++;
        try {
            call.run();
        } catch (RuntimeException e) {
            if (e.getClass() != want) {
                tell(what + " threw " + e.getClass().getSimpleName() + ", due is " + want.getSimpleName());
            }
            return;
        }
        tell(what + " threw nothing, due is " + want.getSimpleName());
    }

    private void tell(String fault) {
        wrong++;
        System.out.println(name + ": " + fault);
    }

    void end() {
        System.out.println(name + ": " + asked + " asked, " + wrong + " wrong");
        if (wrong != 0 || asked == 0) {
            System.exit(1);
        }
    }
}
