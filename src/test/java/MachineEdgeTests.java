/** Promises 19 to 26 at their edges: each range, each count, each exception and what comes first. */
public final class MachineEdgeTests {
    private static final Check C = new Check("edges of machines");
    private static final String FOUR_MACHINES = "4 * machine 999 2000 99 99 = 0..\n";

    public static void main(String[] args) {
        machine();
        setting();
        copy();
        copyOfSpeeds();
        setter();
        mountNumbers();
        mountSkillAndForce();
        mountWhenClosed();
        purge();
        purgeOfGrams();
        purging();
        feed();
        feedFour();
        C.end();
    }

    private static void machine() {
        Script.edges(C, "19: machine", "", "machine [1..999] [1..2000] [1..99] [10..99]");
        Script.run(C, "19: four machines", """
            3 * machine 1 1 1 10 = 0..
            machine 0 1 1 10 ! argument              # counts for none
            machine 999 2000 99 99 = 3
            machine 1 1 1 10 ! state
            machine 0 1 1 10 ! argument
            machine 1 2001 1 10 ! argument
            machine 1 1 100 10 ! argument
            machine 1 1 1 9 ! argument
            breakRobot 3 false = false
            breakRobot 4 false ! index
            """);
    }

    private static void setting() {
        Script.edges(C, "20: setting", FOUR_MACHINES, "setting <0..3> [1..99] [0..99] [0..60]");
        Script.edges(C, "20: setting of a slow machine", "machine 1 1 1 10 = 0", "setting <0..0> [1..1] [0..99] [0..60]");
        Script.run(C, "20: settings of all machines", """
            machine 1 1 1 10
            machine 1 1 50 10
            setting 0 1 0 0 = 1
            setting 0 2 0 0 ! argument               # above its greatest
            setting 1 51 0 0 ! argument
            setting 1 50 100 0 ! argument
            setting 1 50 0 61 ! argument
            setting 2 0 0 0 ! index
            setting 1 50 99 60 = 2
            copy 1 0 = 1
            copy 0 0 = 1
            setting 1 50 99 60 = 5                   # told anew, though it is the same
            """);
    }

    private static void copy() {
        Script.edges(C, "21: copy", FOUR_MACHINES + """
            setting 0 1 0 0
            setting 3 1 0 0
            """, "copy <0..3> <0..3>");
        Script.run(C, "21: no setting", FOUR_MACHINES, """
            copy 0 0 ! none
            copy 0 3 ! none
            copy 0 4 ! index
            copy 4 0 ! index
            copy -1 -1 ! index
            setting 0 9 8 7 = 1
            copy 1 0 ! none                          # the other one has a setting
            copy 0 4 ! index
            copy 4 0 ! index
            copy 0 3 = 9
            copy 3 1 = 9
            setting 0 1 0 0 = 4
            """);
    }

    /** The speed is the old one times the square of the old screw, by the square of the new one. */
    private static void copyOfSpeeds() {
        Script.run(C, "21: cut", """
            machine 1 1 99 10
            machine 1 1 99 11
            setting 0 6 0 0
            copy 0 1 = 4               # 600 by 121 is 4.96
            setting 1 5 0 0
            copy 1 0 = 6               # 605 by 100
            """);
        Script.run(C, "21: at least 1", """
            machine 1 1 99 10
            machine 1 1 99 99
            setting 0 98 0 0
            copy 0 1 = 1               # 9800 by 9801 is less than 1
            setting 0 99 0 0
            copy 0 1 = 1               # 9900 by 9801
            setting 0 1 0 0
            copy 0 1 = 1
            """);
        Script.run(C, "21: 2 and just less than 2", """
            machine 1 1 99 10
            machine 1 1 99 40
            setting 0 31 0 0
            copy 0 1 = 1
            setting 0 32 0 0
            copy 0 1 = 2               # 3200 by 1600
            """);
        Script.run(C, "21: to its greatest", """
            machine 1 1 99 20
            machine 1 1 48 10
            machine 1 1 47 10
            machine 1 1 49 10
            setting 0 12 0 0
            copy 0 1 = 48
            copy 0 2 = 47
            copy 0 3 = 48
            setting 0 99 0 0
            copy 0 3 = 49              # 396
            setting 0 99 99 60
            """);
        Script.run(C, "21: the most that is", """
            machine 1 1 99 99
            machine 1 1 99 10
            setting 0 99 0 0
            copy 0 1 = 99              # 9702
            copy 1 0 = 1               # 9900 by 9801
            """);
    }

    private static void setter() {
        Script.edges(C, "22: setter", "", "setter [0..3]");
        Script.run(C, "22: nine setters", """
            8 * setter 0 = 0..
            setter -1 ! argument       # counts for none
            setter 3 = 8
            setter 0 ! state
            setter 4 ! argument
            machine 1 1 1 10
            tool 3 1 false false 0
            mount 0 0 9 ! index
            mount 0 0 7 ! unsupported
            mount 0 0 8 = -1
            """);
    }

    private static void mountNumbers() {
        String all = "4 * machine 9 9 9 10\n6 * tool 0 1 false false 0\n9 * setter 0\n";
        Script.edges(C, "23: mount", all, "mount <0..3> <0..5> <0..8>");
        Script.run(C, "23: numbers ahead of all else", Lines.SLIDES, """
            tool 3 999 false false 0 = 1
            shot 0
            mount 1 1 0 ! index
            mount 0 2 0 ! index
            mount 0 1 1 ! index
            mount -1 1 0 ! index
            mount 0 -1 0 ! index
            mount 0 1 -1 ! index
            """);
        Script.run(C, "23: the tool before", all, """
            mount 0 5 0 = -1
            mount 0 5 8 = 5
            mount 0 0 0 = 5
            mount 3 5 0 = -1
            mount 3 0 0 ! unsupported                # on another machine
            mount 0 1 0 = 0
            mount 3 0 0 = 5
            serve 5 = 0
            serve 1 ! state
            """);
    }

    private static void mountSkillAndForce() {
        Script.run(C, "23: skills", """
            machine 1 1 1 10
            tool 0 1 false false 0
            tool 2 1 false false 0
            setter 0
            setter 1
            setter 2
            setter 3
            mount 0 1 0 ! unsupported
            mount 0 1 1 ! unsupported
            mount 0 1 2 = -1
            mount 0 0 0 = 1
            mount 0 1 3 = 0
            """);
        Script.run(C, "23: forces", """
            machine 99 1 1 10
            machine 100 1 1 10
            machine 101 1 1 10
            tool 0 100 false false 0
            setter 0
            mount 0 0 0 ! unsupported
            mount 2 0 0 = -1
            mount 1 0 0 ! unsupported                # on another machine
            mount 2 0 0 = 0                          # on this one already
            tool 0 1 false false 0 = 1
            mount 2 1 0 = 0
            mount 1 0 0 = -1
            """);
    }

    private static void mountWhenClosed() {
        String spare = """
            tool 1 200 false false 0 = 1
            tool 2 200 false false 0 = 2
            tool 1 201 false false 0 = 3
            machine 1 1 1 10 = 1
            tool 0 1 false false 0 = 4
            mount 1 4 0 = -1
            """;
        String refused = """
            mount 0 1 0 ! state
            mount 0 0 0 ! state
            mount 0 2 0 ! unsupported                # the skill, though it is not closed
            mount 0 3 0 ! unsupported                # the force
            mount 0 4 0 ! unsupported                # on another machine
            mount 0 5 0 ! index
            """;
        Script.run(C, "23: with slides", Lines.SLIDES, spare, "shot 0", refused, "act 0 o", refused, "act 0 f", refused,
            "act 0 t", refused, "act 0 b", refused, "act 0 i", "mount 0 1 0 = 0");
        Script.run(C, "23: without slides", Lines.TWO, spare, "shot 0", refused, "act 0 f", refused, "act 0 t", refused,
            "act 0 b", "mount 0 1 0 = 0");
        Script.run(C, "23: a broken robot does not mind", Lines.TWO, spare, """
            breakRobot 0 true
            mount 0 1 0 = 0
            """);
    }

    private static void purge() {
        String all = "6 * resin 1 1 0 0 0 false\n23 * lot 0 100 0\nlot 5 100 0\n4 * machine 1 1 1 10\n";
        Script.edges(C, "24: purge", all, "purge <0..3> <0..23> [0..7]");
        Script.run(C, "24: without an old resin it is 20", all, """
            purge 0 23 0 = 20
            purge 1 23 7 = 20
            waste 5 = 40
            waste 0 = 0
            grams 23 = 60
            """);
        Script.run(C, "24: steps to a lighter colour", Lines.BEGUN, """
            purge 0 0 6 = 20
            purge 0 0 7 = 20           # a step darker
            purge 0 0 7 = 20           # the same
            purge 0 0 6 = 50           # a step lighter
            purge 0 0 0 = 200          # six
            purge 0 0 7 = 20           # seven darker
            purge 0 0 0 = 230          # seven lighter
            grams 0 = 99440
            waste 0 = 560
            isTrue = true
            """);
        String refused = """
            purge 0 0 0 ! state
            purge 0 0 8 ! argument
            purge 0 0 -1 ! argument
            purge 0 1 8 ! index
            purge 1 0 0 ! index
            """;
        Script.run(C, "24: a part is in the mould", Lines.SLIDES, "shot 0", refused, "act 0 o", refused, "act 0 f", refused, """
            act 0 t
            purge 0 0 0 = 20           # the ejectors need not be back
            act 0 b
            purge 0 0 0 = 20           # nor the slides in
            shot 0 ! unsupported       # its hopper is empty
            """);
        Script.run(C, "24: in the mould of another machine", Lines.TWO, """
            machine 1 1 1 10 = 1
            shot 0
            purge 1 0 0 = 20
            """);
        Script.run(C, "24: too few grams, and a part is in the mould", Lines.TWO, """
            lot 0 19 0 = 1
            shot 0
            purge 0 1 0 ! state
            purge 0 1 8 ! argument
            act 0 f; act 0 t
            purge 0 1 0 ! state
            feed 0 0 50 = 50           # the hopper is as it was
            """);
    }

    private static void purgeOfGrams() {
        Script.run(C, "24: just enough", """
            resin 1 1 0 0 0 false
            resin 1 1 0 0 0 true
            lot 0 19 0
            lot 0 20 0
            lot 1 269 0
            lot 1 270 0
            lot 0 99 0
            lot 0 100 400              # its water does not matter
            machine 1 1 1 10
            purge 0 0 3 ! state
            purge 0 1 3 = 20
            grams 1 = 0
            purge 0 2 3 ! state        # 20, 50 and 200
            purge 0 3 3 = 270
            grams 3 = 0
            waste 1 = 270
            purge 0 4 2 ! state        # 20, 50 and 30
            purge 0 5 2 = 100
            grams 5 = 0
            waste 0 = 120
            isTrue = true
            """);
    }

    private static void purging() {
        String all = "6 * resin 1 1 0 0 0 false\nlot 0 100 0\n4 * machine 1 1 1 10\n";
        Script.edges(C, "25: purging", all, "purging <0..3> <0..5> [0..7]");
        Script.run(C, "25: what it would take", """
            resin 1 1 0 0 0 false
            resin 1 1 0 0 0 false
            resin 1 1 0 0 0 true
            lot 0 1000 0
            lot 2 1000 0
            machine 9 1 1 10
            machine 9 1 1 10
            tool 0 1 false true 0      # for food
            setter 0
            purging 0 0 7 = 20
            purging 0 2 0 = 20         # without an old resin, for food too
            mount 0 0 0
            purging 0 0 0 = 20         # with a tool for food too
            purge 0 0 3 = 20
            purge 1 0 3 = 20
            purging 0 0 3 = 220        # the tool is for food, the old resin is not
            purging 0 1 3 = 270
            purging 0 2 3 = 270        # 200 once
            purging 0 2 4 = 270
            purging 0 2 2 = 300
            purging 1 0 3 = 20
            purging 1 1 3 = 70
            purging 1 2 3 = 270
            purge 0 1 3 = 270
            purging 0 2 3 = 20         # the old resin is for food
            purging 0 0 3 = 70
            waste 0 = 40
            """);
        Script.run(C, "25: a part in the mould, and no lot, do not matter", Lines.TWO, """
            resin 1 1 0 0 0 false
            shot 0
            purging 0 1 0 = 70
            purging 0 0 0 = 20
            """);
    }

    private static void feed() {
        String all = "6 * resin 1 1 0 0 0 false\n24 * lot 5 100 0\n4 * machine 1 1 1 10\npurge 0 0 0\npurge 3 23 0\n";
        Script.edges(C, "26: feed", all + "purge 1 0 0\npurge 2 0 0\n", "feed <0..3> <0..23> [0..100]");
        Script.run(C, "26: another resin, or none", all, """
            feed 1 0 1 ! unsupported
            feed 1 0 0 ! unsupported
            feed 1 0 101 ! argument
            feed 1 24 101 ! index
            feed 4 0 101 ! index
            feed 0 0 100 = 100
            resin 1 1 0 0 0 false ! state
            """);
        Script.run(C, "26: a lot of another resin", Lines.BEGUN, """
            resin 1 1 0 0 0 false
            lot 1 100 0
            lot 0 100 0
            purge 0 0 0
            feed 0 1 50 ! unsupported
            feed 0 1 0 ! unsupported
            feed 0 1 -1 ! argument
            feed 0 1 101 ! argument
            feed 0 3 50 ! index
            feed 0 0 50 = 50
            purge 0 1 0 = 70
            feed 0 0 50 ! unsupported
            feed 0 0 0 ! unsupported
            feed 0 1 1 = 1             # its hopper was empty
            """);
    }

    private static void feedFour() {
        String five = """
            resin 3 10 50 2 300 false
            6 * lot 0 1000 0
            resin 1 1 0 0 0 false
            lot 1 1000 0 = 6
            machine 200 500 20 40
            purge 0 0 0
            """;
        Script.run(C, "26: four lots", five, """
            feed 0 0 1 = 1
            feed 0 1 2 = 3
            feed 0 2 4 = 7
            feed 0 3 8 = 15
            feed 0 4 16 ! state
            feed 0 4 100 ! state
            feed 0 4 0 = 15            # it has four then as well
            feed 0 4 101 ! argument
            feed 0 6 1 ! unsupported
            feed 0 6 -1 ! argument
            feed 0 7 1 ! index
            feed 0 3 100 = 107         # one that is there is changed
            feed 0 0 0 = 106
            feed 0 0 0 = 106
            feed 0 4 16 = 122
            feed 0 5 1 ! state
            feed 0 1 0; feed 0 2 0; feed 0 3 0
            feed 0 4 0 = 0
            feed 0 4 0 = 0
            """);
        Script.run(C, "26: a refused share leaves the old one", five, """
            feed 0 0 60 = 60
            feed 0 1 40 = 100
            feed 0 0 101 ! argument
            feed 0 1 -1 ! argument
            feed 0 1 MIN ! argument
            feed 0 0 MAX ! argument
            feed 0 6 0 ! unsupported
            feed 0 1 40 = 100
            """);
        Script.run(C, "26: the greatest sum", five, """
            feed 0 0 100 = 100
            feed 0 1 100 = 200
            feed 0 2 100 = 300
            feed 0 3 100 = 400
            feed 0 3 99 = 399
            """);
    }
}
