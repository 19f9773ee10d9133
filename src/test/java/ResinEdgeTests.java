/** Promises 1 to 9 at their edges: each range, each count, each exception and what comes first. */
public final class ResinEdgeTests {
    private static final Check C = new Check("edges of resins and lots");

    public static void main(String[] args) {
        aNewObject();
        resin();
        lot();
        dry();
        looks();
        grindNothing();
        grindFull();
        grindWhat();
        C.end();
    }

    private static void aNewObject() {
        Script.run(C, "1: a new object", """
            parts = 0
            isTrue = true
            badShare ! arithmetic
            meanShrinking ! arithmetic
            waste 0 ! index
            brought 0 ! index
            lost 0 ! index
            grind 0 ! index
            lot 0 1 0 ! index
            grams 0 ! index
            water 0 ! index
            generation 0 ! index
            dry 0 1 ! index
            freezing 0 0 ! index
            serve 0 ! index
            cause 0 ! index
            points 0 0 ! index
            box 0 1 1 ! index
            breakRobot 0 false ! index
            foresee 0 ! index
            setting 0 1 0 0 ! index
            stateOf 0 ! index
            inBox 0 0 ! index
            pass 1 = 1        # the hours are counted from 0
            """);
        Script.run(C, "1: no setters", """
            machine 1 1 1 10 = 0
            tool 0 1 false false 0 = 0
            mount 0 0 0 ! index
            setting 0 1 0 0 = 1
            """);
    }

    private static void resin() {
        Script.edges(C, "2: resin", "", "resin [1..9] [1..50] [0..100] [0..5] [0..400] false");
        Script.edges(C, "2: resin for food", "", "resin [1..9] [1..50] [0..100] [0..5] [0..400] true");
        Script.run(C, "2: six resins", """
            5 * resin 1 1 0 0 0 false = 0..
            resin 0 1 0 0 0 false ! argument     # counts for none
            resin 9 50 100 5 400 true = 5
            resin 1 1 0 0 0 false ! state
            resin 9 50 100 5 400 true ! state
            resin 0 1 0 0 0 false ! argument
            resin 1 51 0 0 0 false ! argument
            resin 1 1 101 0 0 false ! argument
            resin 1 1 0 6 0 false ! argument
            resin 1 1 0 0 401 false ! argument
            lot 5 1 0 = 0
            lot 6 1 0 ! index
            """);
    }

    private static void lot() {
        Script.edges(C, "3: lot", "6 * resin 1 1 0 0 0 false = 0..", "lot <0..5> [1..100000] [0..400]");
        Script.run(C, "3: 24 lots", """
            2 * resin 1 1 0 0 0 false
            23 * lot 0 1 0 = 0..
            lot 0 0 0 ! argument                 # counts for none
            lot 1 100000 400 = 23
            lot 0 1 0 ! state
            lot 1 100000 400 ! state
            lot 0 0 0 ! argument
            lot 0 1 401 ! argument
            lot 2 1 0 ! index
            lot -1 0 0 ! index
            lot 2 1 401 ! index
            brought 0 = 23                       # what is refused was not brought
            brought 1 = 100000
            grams 23 = 100000
            water 23 = 400
            generation 23 = 0
            isTrue = true
            """);
    }

    private static void dry() {
        String lots = """
            resin 1 1 0 0 0 false
            24 * lot 0 1 400
            """;
        Script.edges(C, "4: dry", lots, "dry <0..23> [1..48]");
        Script.run(C, "4: three quarters, cut", """
            resin 1 1 0 0 0 false
            lot 0 1 0
            lot 0 1 1
            lot 0 1 2
            lot 0 1 3
            lot 0 1 4
            lot 0 1 5
            lot 0 1 399
            lot 0 1 400
            dry 0 1 = 0
            dry 1 1 = 0
            dry 2 1 = 1
            dry 3 1 = 2
            dry 4 1 = 3
            dry 5 1 = 3
            dry 6 1 = 299
            dry 7 1 = 300
            dry 7 2 = 168              # 225, 168
            dry 7 48 = 0
            dry 6 15 = 3               # 224 168 126 94 70 52 39 29 21 15 11 8 6 4 3
            dry 6 1 = 2
            dry 6 1 = 1
            dry 6 1 = 0
            dry 6 1 = 0
            """);
        Script.run(C, "4: no time goes by", """
            resin 1 1 0 0 0 false
            lot 0 1 10
            lot 0 1 10
            dry 0 48 = 0
            water 1 = 10
            pass 1 = 1
            water 0 = 1
            water 1 = 11
            """);
    }

    private static void looks() {
        String lots = "6 * resin 1 1 0 0 0 false\n24 * lot 5 7 9\n";
        for (String call : new String[] {"grams", "water", "generation"}) {
            Script.edges(C, "5 to 7: " + call, lots, call + " <0..23>");
        }
        for (String call : new String[] {"waste", "brought", "lost"}) {
            Script.edges(C, "8, 46, 47: " + call, lots, call + " <0..5>");
        }
        Script.run(C, "5 to 8: the first and the last", lots + """
            grams 0 = 7
            grams 23 = 7
            water 0 = 9
            water 23 = 9
            generation 0 = 0
            generation 23 = 0
            waste 0 = 0
            waste 5 = 0
            """);
        Script.run(C, "5: a lot that is used up", """
            resin 1 1 0 0 0 false
            machine 1 1 1 10
            lot 0 20 9
            grams 0 = 20
            purge 0 0 0 = 20
            grams 0 = 0
            water 0 = 9
            generation 0 = 0
            waste 0 = 20
            dry 0 1 = 6
            """);
    }

    /** A tool whose cell 0 and sprue are waste of so many grams, and whose part of 1 gram is good. */
    private static String sprue(int... grams) {
        StringBuilder s = new StringBuilder(Lines.BEGUN).append("tool 0 1 false false 9999\ncell 0 0 1 9 0 0\n");
        for (int g : grams) {
            s.append("cell 0 0 ").append(g).append(" 9 0 -1\n");
        }
        return s + Lines.MOUNTED;
    }

    private static void grindNothing() {
        String resins = "6 * resin 1 1 0 0 0 false\n";
        Script.run(C, "9: numbers of resins", resins, """
            grind -1 ! index
            grind 6 ! index
            grind MIN ! index
            grind MAX ! index
            grind 0 ! none
            grind 5 ! none
            """);
        Script.run(C, "9: 49 grams", sprue(27), Lines.PRESS, """
            waste 0 = 49
            grind 0 ! none
            """);
        Script.run(C, "9: 50 grams", sprue(28), Lines.PRESS, """
            waste 0 = 50
            grind 0 ! none
            waste 0 = 50
            """);
        Script.run(C, "9: 51 grams", sprue(29), Lines.PRESS, """
            waste 0 = 51
            grind 0 = 1
            grams 1 = 50
            lost 0 = 1
            waste 0 = 0
            grind 0 ! none
            """);
        Script.run(C, "9: 99 grams", sprue(50, 27), Lines.PRESS, """
            grind 0 = 1
            grams 1 = 98
            lost 0 = 1
            """);
        Script.run(C, "9: 100 grams", sprue(50, 28), Lines.PRESS, """
            grind 0 = 1
            grams 1 = 98
            lost 0 = 2
            isTrue = true
            """);
    }

    private static void grindFull() {
        String full = Lines.BEGUN + """
            purge 0 0 1
            purge 0 0 0 = 50
            """;
        Script.run(C, "9: 23 lots", full, "22 * lot 0 1 0 = 1..", """
            grind 0 = 23
            generation 23 = 1
            lot 0 1 0 ! state
            """);
        Script.run(C, "9: 24 lots", full, "23 * lot 0 1 0 = 1..", """
            grind 0 ! state
            grind 1 ! index
            waste 0 = 70
            lost 0 = 0
            """);
        Script.run(C, "9: 24 lots and too few grams", Lines.BEGUN, """
            purge 0 0 0
            23 * lot 0 1 0 = 1..
            grind 0 ! none
            purge 0 0 0
            grind 0 ! none
            purge 0 0 0
            grind 0 ! state
            """);
        Script.run(C, "9: 24 lots, and a bad part stays out", Lines.BAD, Lines.PRESS, "23 * lot 0 1 0", """
            grind 0 ! state
            stateOf 1 = o
            """);
    }

    /** A part that is bad, as its cell took 2 grams alone: the purge, the cell 0 and the rest are waste. */
    private static String badPart(int grams) {
        return Lines.BEGUN + "tool 0 1 false false 9999\ncell 0 0 " + grams + " 1 0 1\n" + Lines.MOUNTED + Lines.PRESS;
    }

    private static void grindWhat() {
        Script.run(C, "9: bad parts that were taken out", Lines.BAD, """
            shot 0
            waste 0 = 70               # 20 of the purge, 2 of the cell 0, 48 that were not taken up
            grind 0 = 1                # the bad part is in the mould
            grams 1 = 69
            stateOf 1 = m
            act 0 f
            grind 0 ! none
            act 0 t
            grind 0 ! none             # 2 grams are 50 or less
            act 0 b
            shot 0
            grind 0 = 2                # a part of 2 grams, 50 of waste
            grams 2 = 51
            stateOf 0 = o
            stateOf 1 = g
            stateOf 3 = m
            lost 0 = 2
            isTrue = true
            """);
        Script.run(C, "9: 48 grams of waste and a part of 2", badPart(28), """
            waste 0 = 48
            partOf 0 g = 2
            grind 0 ! none
            """);
        Script.run(C, "9: 49 grams of waste and a part of 2", badPart(29), """
            waste 0 = 49
            partOf 0 g = 2
            grind 0 = 1
            grams 1 = 50
            stateOf 0 = g
            """);
        Script.run(C, "9: 49 grams of waste, a part of 2 in the mould", badPart(29).replace(Lines.OUT, ""), """
            grind 0 ! none
            act 0 f; act 0 t
            grind 0 = 1
            """);
        Script.run(C, "9: of a resin alone", Lines.BAD, Lines.PRESS, """
            resin 1 1 0 0 0 false
            lot 1 100 0
            grind 1 ! none
            purge 0 1 0 = 70
            grind 1 = 2
            grams 2 = 69
            waste 0 = 70
            stateOf 1 = o
            grind 0 = 3
            grams 3 = 71
            stateOf 1 = g
            isTrue = true
            """);
    }
}
