/** Promises 33 to 50 at their edges: each range, each count, each exception and what comes first. */
public final class PartEdgeTests {
    private static final Check C = new Check("edges of parts");
    private static final int[] NO_SIGNS = {0, 'M', 'T', 'C', 'H', 'G', 'S', 'W', 'P', 'a', 'b', 'l', 'n', 'o', 'f', 'x', '-', ' ', 127, 255,
        256 + 'm', 65535};

    public static void main(String[] args) {
        pass();
        partOf();
        lotIn();
        stateOf();
        size();
        measure();
        measureRefused();
        measureTolerance();
        isBad();
        points();
        warning();
        warningNumbers();
        boxNumbers();
        boxParts();
        boxHours();
        boxTwenty();
        inBox();
        causeNone();
        causeOrder();
        sums();
        shares();
        isTrue();
        C.end();
    }

    private static void pass() {
        Script.edges(C, "33: pass", "", "pass [1..100]");
        Script.run(C, "33: the hour", """
            pass 0 ! argument
            pass 1 = 1
            pass 100 = 101
            pass 101 ! argument
            pass -1 ! argument
            pass 2 = 103
            """);
        Script.run(C, "33: water up to 400", """
            resin 1 1 0 0 0 false
            lot 0 1 300
            lot 0 1 301
            lot 0 1 399
            lot 0 1 400
            lot 0 1 0
            pass 101 ! argument
            water 0 = 300
            pass 99 = 99
            water 0 = 399
            water 1 = 400
            water 2 = 400
            water 3 = 400
            water 4 = 99
            pass 1 = 100
            water 0 = 400
            water 1 = 400
            pass 100 = 200
            water 0 = 400
            water 4 = 200
            """);
        Script.run(C, "33: a lot without grams, and one with a gram", """
            resin 1 1 0 0 0 false
            machine 1 1 1 10
            lot 0 20 7
            lot 0 21 7
            purge 0 0 0
            purge 0 1 0
            pass 50
            water 0 = 7
            water 1 = 57
            """);
    }

    private static void partOf() {
        StringBuilder wrong = new StringBuilder();
        for (int sign : NO_SIGNS) {
            wrong.append("partOf 0 @").append(sign).append(" ! argument\n");
        }
        Script.run(C, "34: partOf", Lines.TWO, "shot 0", wrong.toString(), """
            partOf 2 m ! index
            partOf 2 x ! index
            partOf -1 x ! index
            partOf MIN m ! index
            partOf MAX m ! index
            partOf 0 m = 0
            partOf 1 m = 0
            partOf 0 t = 0
            partOf 0 c = 0
            partOf 1 c = 1
            partOf 0 h = 0
            partOf 0 g = 5
            partOf 0 s = 950
            partOf 0 w = 0
            partOf 0 p = 0
            partOf 1 p = 0
            """);
        Script.run(C, "34: of the last machine, tool and cavity", """
            resin 3 10 50 2 300 false
            lot 0 1000 0
            4 * machine 9 100 99 10
            6 * tool 0 1 false false 9999
            setter 0
            cell 5 0 5 3 0 3
            setting 0 1 0 0
            setting 3 20 10 5
            copy 3 0 = 20
            copy 3 3 = 20
            copy 3 3 = 20
            mount 3 5 0
            purge 3 0 0
            feed 3 0 100
            pass 100
            shot 3
            pass 1
            partOf 0 m = 3
            partOf 0 t = 5
            partOf 0 c = 3
            partOf 0 h = 100
            partOf 0 p = 4             # copied ones are told, too
            setting 3 1 0 0 = 6
            partOf 0 p = 4
            """);
        Script.run(C, "34: no parts", Lines.TWO, """
            partOf 0 m ! index
            partOf 0 x ! index
            """);
    }

    private static void lotIn() {
        Script.run(C, "35: lotIn", Lines.TWO, "22 * lot 0 1 0\nlot 0 100 0 = 23\nfeed 0 0 50\nfeed 0 23 50\nshot 0", """
            lotIn 0 0 = 6
            lotIn 1 0 = 6
            lotIn 0 23 = 6
            lotIn 0 1 = 0
            lotIn 2 0 ! index
            lotIn -1 0 ! index
            lotIn 0 24 ! index
            lotIn 0 -1 ! index
            lotIn 2 24 ! index
            lotIn MIN 0 ! index
            lotIn 0 MAX ! index
            """);
        Script.run(C, "35: four lots, and a lot of a later time", Lines.TWO, """
            3 * lot 0 10 0
            feed 0 0 25; feed 0 1 25; feed 0 2 25; feed 0 3 25
            shot 0
            lotIn 0 0 = 3
            lotIn 0 1 = 3
            lotIn 0 2 = 3
            lotIn 0 3 = 3
            feed 0 1 0                 # the hopper of a later time does not matter
            lot 0 1 0 = 4
            lotIn 0 1 = 3
            lotIn 0 4 = 0
            """);
    }

    private static void stateOf() {
        String refused = """
            stateOf 2 ! index
            stateOf -1 ! index
            stateOf MIN ! index
            stateOf MAX ! index
            size 2 ! index
            size -1 ! index
            isBad 2 ! index
            isBad -1 ! index
            measure 2 ! index
            measure -1 ! index
            measure MIN ! index
            measure MAX ! index
            """;
        Script.run(C, "36 to 39: numbers of parts", Lines.TWO, "stateOf 0 ! index\nsize 0 ! index\nmeasure 0 ! index\nisBad 0 ! index",
            "shot 0", refused, "stateOf 0 = m\nstateOf 1 = m");
        Script.run(C, "36: in the mould, out, ground, in a box", Lines.BAD, """
            shot 0
            stateOf 1 = m
            act 0 f = t
            stateOf 1 = m
            act 0 t = b
            stateOf 1 = o
            grind 0
            stateOf 1 = g
            stateOf 0 = o
            pass 24
            stateOf 0 = o
            measure 0
            stateOf 0 = o
            box 0 1 1
            stateOf 0 = b
            """);
    }

    private static void size() {
        Script.run(C, "37: 712 of 950 at once, 238 in 24 hours", Lines.TWO, "pass 5", Lines.PRESS, """
            size 0 = 99288
            pass 1
            size 0 = 99279             # 9.9
            pass 1
            size 0 = 99269             # 19.8
            pass 21
            size 0 = 99060             # 228.08
            size 1 = 99060
            pass 1
            size 0 = 99050
            pass 1
            size 0 = 99050
            pass 100
            size 0 = 99050
            """);
        Script.run(C, "37: a size of 100000", Lines.TWO, "setNozzle 0 0 h\nsetNozzle 0 1 h\nsetting 0 20 99 60", Lines.PRESS, """
            partOf 0 s = 0
            size 0 = 100000
            pass 24
            size 0 = 100000
            """);
        Script.run(C, "37: the least size", Lines.TWO.replace("3 10 50", "3 50 50"), "setting 0 20 99 0", Lines.PRESS, """
            size 0 = 96250
            pass 12
            size 0 = 95625
            pass 12
            size 0 = 95000
            """);
        Script.run(C, "37: three quarters of 1, 2 and 3, cut", Lines.BEGUN.replace("3 10 50", "3 1 50"), """
            tool 0 1 false false 9999
            cell 0 0 5 3 0 0
            """, Lines.MOUNTED, "setting 0 20 33 3", Lines.PRESS, "setting 0 20 49 2", Lines.PRESS, "setting 0 20 97 1", Lines.PRESS, """
            partOf 0 s = 1
            partOf 1 s = 2
            partOf 2 s = 3
            size 0 = 100000
            size 1 = 99999
            size 2 = 99998
            pass 23
            size 0 = 100000            # 23 by 24, cut
            size 1 = 99999
            size 2 = 99998
            pass 1
            size 0 = 99999
            size 1 = 99998
            size 2 = 99997
            """);
    }

    private static void measure() {
        Script.run(C, "38: from 24 hours on", Lines.TWO, "pass 3", Lines.PRESS, """
            pass 23
            measure 0 ! state
            pass 1
            measure 0 = true
            measure 0 ! unsupported
            pass 1
            measure 0 ! unsupported
            measure 1 = true
            """);
        Script.run(C, "38: in a box", Lines.TWO, Lines.PRESS, """
            pass 24
            box 0 1 1
            measure 0 = true
            measure 0 ! unsupported
            stateOf 0 = b
            """);
    }

    private static void measureRefused() {
        Script.run(C, "38: in the mould", Lines.TWO, """
            shot 0
            measure 0 ! unsupported    # nor has it 24 hours
            pass 24
            measure 0 ! unsupported
            act 0 f = t
            measure 0 ! unsupported
            act 0 t = b
            measure 0 = true
            points 0 0 = 1
            """);
        Script.run(C, "38: a cell that was not full", Lines.BAD, Lines.PRESS, """
            measure 1 ! unsupported    # nor has it 24 hours
            measure 0 ! state
            pass 24
            measure 1 ! unsupported
            points 0 1 = 0
            grind 0
            measure 1 ! unsupported    # ground
            measure 0 = true
            """);
        Script.run(C, "38: ground", Lines.BEGUN, """
            tool 0 1 false false 0
            cell 0 0 5 3 0 0
            cell 0 0 1 1 0 0
            """, Lines.MOUNTED, Lines.PRESS, Lines.PRESS, """
            purge 0 0 1
            purge 0 0 0 = 50
            partOf 0 w = 50
            isBad 0 = true
            stateOf 0 = o
            measure 0 ! state
            grind 0 = 1
            stateOf 0 = g
            measure 0 ! unsupported    # nor has it 24 hours
            pass 24
            measure 0 ! unsupported
            points 0 0 = 0
            """);
    }

    private static void measureTolerance() {
        Script.run(C, "38: off by more than the tolerance", Lines.TWO, Lines.times(3, Lines.PRESS), """
            pass 24
            size 0 = 99050
            setNominal 0 0 99000 50
            measure 0 = true
            setNominal 0 0 99000 49
            measure 2 = false
            setNominal 0 0 99000 51
            measure 4 = true
            isBad 0 = false            # as it was measured
            isBad 2 = true
            setNominal 0 1 99100 50
            measure 1 = true
            setNominal 0 1 99100 49
            measure 3 = false
            setNominal 0 1 99100 51
            measure 5 = true
            isBad 1 = false
            isBad 3 = true
            """);
        Script.run(C, "38: a tolerance of 0", Lines.TWO, Lines.times(3, Lines.PRESS), """
            pass 24
            setNominal 0 0 99050 0
            measure 0 = true
            setNominal 0 0 99049 0
            measure 2 = false
            setNominal 0 0 99051 0
            measure 4 = false
            """);
        Script.run(C, "38: a part that warps can be within the tolerance", Lines.BEGUN, """
            tool 0 1 false false 49
            cell 0 0 5 3 0 0
            cell 0 0 1 1 0 0
            """, Lines.MOUNTED, Lines.PRESS, """
            pass 24
            isBad 0 = true
            measure 0 = true
            isBad 0 = true
            """);
    }

    private static void isBad() {
        for (int limit = 49; limit <= 51; limit++) {
            Script.run(C, "39: a warp of 50, a limit of " + limit, Lines.BEGUN, "tool 0 1 false false " + limit, """
                cell 0 0 5 3 0 0
                cell 0 0 1 1 0 0       # freezes in 3, ahead of holding
                """, Lines.MOUNTED, """
                shot 0
                partOf 0 w = 50
                """, "isBad 0 = " + (limit < 50));
        }
        Script.run(C, "39: a limit of 0", Lines.TWO.replace("false false 400", "false false 0"), """
            shot 0
            partOf 0 w = 0
            isBad 0 = false
            isBad 1 = false
            """);
        Script.run(C, "39: a gram that is lacking", Lines.BEGUN, """
            tool 1 100 false false 9999
            cell 0 0 2 1 0 0           # a gram in tick 2 and one in tick 3, as it freezes
            cell 0 0 3 1 0 1
            """, Lines.MOUNTED, """
            shot 0
            partOf 0 g = 2
            isBad 0 = false
            partOf 1 g = 2
            isBad 1 = true
            """);
    }

    private static void points() {
        String tools = "6 * tool 0 1 false false 9999\ncell 5 0 1 9 0 0\ncell 5 0 1 9 0 3\n4 * cell 0 0 1 9 0 1\n";
        String refused = """
            points 5 1 ! index
            points 5 2 ! index
            points 5 -1 ! index
            points 5 4 ! index
            points 5 MIN ! index
            points 5 MAX ! index
            points 0 0 ! index
            points 6 0 ! index
            points -1 0 ! index
            """;
        Script.run(C, "40 and 41: tools and cavities in them", tools, refused, refused.replace("points", "warning"), """
            points 5 0 = 0
            points 5 3 = 0
            warning 5 0 ! none
            warning 5 3 ! none
            points 0 1 = 0
            """);
        Script.run(C, "40: a blocked cavity is in the tool", Lines.TWO, Lines.PRESS, """
            pass 24
            measure 1 = true
            block 0 1 true = false
            points 0 1 = 1
            setNominal 0 1 100000 0
            warning 0 1 = 0
            """);
        Script.run(C, "40: what was refused is no point", Lines.TWO, Lines.PRESS, """
            measure 0 ! state
            points 0 0 = 0
            pass 24
            measure 0
            measure 0 ! unsupported
            points 0 0 = 1
            points 0 1 = 0
            """);
    }

    /** A chart of parts that shrink by 1000 less 5 times the pressure, one shot of each. */
    private static String chart(int... pressures) {
        StringBuilder s = new StringBuilder(Lines.TWO);
        for (int pressure : pressures) {
            s.append("setting 0 20 ").append(pressure).append(" 5\n").append(Lines.PRESS);
        }
        s.append("pass 24\n");
        for (int i = 0; i < pressures.length; i++) {
            s.append("measure ").append(2 * i + 1).append('\n');
        }
        return s.append("warning 0 1 ").toString();
    }

    private static void warning() {
        Script.run(C, "41: four rise", chart(1, 2, 3, 4) + "! none");
        Script.run(C, "41: five rise", chart(1, 2, 3, 4, 5) + "= 4");
        Script.run(C, "41: four fall", chart(5, 4, 3, 2) + "! none");
        Script.run(C, "41: five fall", chart(5, 4, 3, 2, 1) + "= 4");
        Script.run(C, "41: the first two are alike", chart(1, 1, 2, 3, 4) + "! none");
        Script.run(C, "41: the last two are alike", chart(1, 2, 3, 4, 4) + "! none");
        Script.run(C, "41: one more that rises", chart(1, 1, 2, 3, 4, 5) + "= 5");
        Script.run(C, "41: one in the middle falls", chart(1, 2, 4, 3, 5, 6) + "! none");
        Script.run(C, "41: they rise, then fall", chart(1, 2, 3, 4, 3, 2, 1, 0) + "= 7");
        Script.run(C, "41: they fall, then rise", chart(4, 3, 2, 1, 2, 3, 4, 5) + "= 7");
        Script.run(C, "41: all alike", chart(3, 3, 3, 3, 3, 3) + "! none");
        Script.run(C, "41: the first one that warns", chart(1, 2, 3, 4, 5, 6) + "= 4", """
            setNominal 0 1 99030 24
            warning 0 1 = 0            # 99005 is 25 off
            setNominal 0 1 99005 20
            warning 0 1 = 4            # 99025 is 20 off, but the fifth that rises
            setNominal 0 1 99005 14
            warning 0 1 = 3            # 99020 is 15 off
            setNominal 0 1 99005 15
            warning 0 1 = 4
            """);
    }

    private static void warningNumbers() {
        Script.run(C, "41: off by more than the tolerance, both as they are now", chart(10, 12, 8) + "! none", """
            setNominal 0 1 99000 60
            warning 0 1 ! none         # 99050, 99060, 99040
            setNominal 0 1 99000 59
            warning 0 1 = 1
            setNominal 0 1 99000 50
            warning 0 1 = 1
            setNominal 0 1 99000 49
            warning 0 1 = 0
            setNominal 0 1 99100 59
            warning 0 1 = 2
            setNominal 0 1 99100 60
            warning 0 1 ! none
            setNominal 0 1 99100 49
            warning 0 1 = 0
            isBad 1 = false            # as they were measured
            setNominal 0 0 99000 0
            warning 0 0 ! none         # no points
            """);
        Script.run(C, "41: a part that was bad as it was measured", Lines.TWO, Lines.PRESS, """
            pass 24
            setNominal 0 0 99000 0
            measure 0 = false
            warning 0 0 = 0
            setNominal 0 0 99050 0
            warning 0 0 ! none
            isBad 0 = true
            purge 0 0 1
            purge 0 0 0
            grind 0
            stateOf 0 = g
            points 0 0 = 1             # ground ones stay in the chart
            """);
        Script.run(C, "41: by the order of measuring", Lines.TWO, """
            setting 0 20 1 5
            """, Lines.PRESS, "setting 0 20 3 5", Lines.PRESS, "setting 0 20 2 5", Lines.PRESS, "setting 0 20 5 5", Lines.PRESS,
            "setting 0 20 4 5", Lines.PRESS, """
            pass 24
            measure 0; measure 4; measure 2; measure 8
            warning 0 0 ! none
            measure 6
            warning 0 0 = 4
            measure 1; measure 3; measure 5; measure 7; measure 9
            warning 0 1 ! none
            """);
    }

    private static void boxNumbers() {
        String all = "6 * tool 0 1 false false 0\ncell 5 0 1 9 0 0\ncell 5 0 1 9 0 3\ncell 0 0 1 9 0 1\n";
        Script.run(C, "42: tools and cavities in them", all, """
            box 5 0 1 ! index          # none is asked for
            box 5 0 0 ! index
            box 5 2 1 ! index
            box 5 4 1 ! index
            box 5 3 1 ! index          # 0 is there, 1 is not
            box 5 15 1 ! index
            box 5 16 1 ! index
            box 5 17 1 ! index
            box 5 -1 1 ! index
            box 5 MIN 1 ! index
            box 5 MAX 1 ! index
            box 6 1 1 ! index
            box -1 1 1 ! index
            box MIN 1 1 ! index
            box 6 1 0 ! index
            box 0 1 10 ! index
            box 5 1 0 ! argument
            box 5 1 10 ! argument
            box 5 9 -1 ! argument
            box 5 9 MIN ! argument
            box 5 9 MAX ! argument
            box 5 1 1 ! none
            box 5 8 9 ! none
            box 5 9 1 ! none
            inBox 0 0 ! index
            """);
        Script.run(C, "42: all four cavities", Lines.BEGUN, """
            tool 0 1 false false 9999
            cell 0 0 1 9 0 0
            cell 0 0 1 9 0 1
            cell 0 0 1 9 0 2
            cell 0 0 1 9 0 3
            """, Lines.MOUNTED, Lines.times(9, Lines.PRESS), """
            pass 24
            box 0 15 9 = 0
            inBox 0 0 = 0
            inBox 0 8 = 32
            inBox 0 9 = 1
            inBox 0 27 = 3
            inBox 0 35 = 35
            inBox 0 36 ! index
            stateOf 35 = b
            box 0 15 1 ! none
            box 0 1 1 ! none
            """);
    }

    private static void boxParts() {
        Script.run(C, "42: as many as there are, and one more", Lines.TWO, Lines.times(3, Lines.PRESS), """
            pass 24
            box 0 1 4 ! none
            box 0 3 4 ! none
            box 0 1 3 = 0
            box 0 3 1 ! none           # the cavity 1 has three, the cavity 0 has none
            box 0 2 4 ! none
            box 0 2 2 = 1
            box 0 2 2 ! none
            box 0 2 1 = 2
            inBox 1 0 = 1
            inBox 1 1 = 3
            inBox 2 0 = 5
            """);
        Script.run(C, "42: bad ones are left out", Lines.TWO, Lines.times(3, Lines.PRESS), """
            pass 24
            setNominal 0 0 90000 0
            measure 0 = false
            box 0 1 3 ! none
            setNominal 0 0 100000 9999
            measure 2 = true
            box 0 1 2 = 0              # measured or not
            inBox 0 0 = 2
            inBox 0 1 = 4
            """);
        Script.run(C, "42: ground ones and those in the mould are left out", Lines.TWO, Lines.times(2, Lines.PRESS), """
            shot 0
            pass 24
            setNominal 0 0 90000 0
            measure 0 = false
            purge 0 0 0 ! state
            waste 0 = 26
            box 0 1 2 ! none
            act 0 f
            box 0 1 2 ! none
            act 0 t
            box 0 1 2 = 0
            inBox 0 0 = 2
            inBox 0 1 = 4
            """);
        Script.run(C, "42: of a tool alone", Lines.TWO, Lines.PRESS, """
            tool 0 1 false false 9999 = 1
            cell 1 0 5 3 0 0
            cell 1 0 5 3 0 1
            mount 0 1 0 = 0
            """, Lines.PRESS, """
            pass 24
            box 1 3 2 ! none
            box 1 3 1 = 0
            inBox 0 0 = 2
            inBox 0 1 = 3
            box 0 1 1 = 1
            inBox 1 0 = 0
            """);
        Script.run(C, "42: a blocked cavity can be packed", Lines.TWO, Lines.PRESS, """
            pass 24
            block 0 1 true
            box 0 2 1 = 0
            """);
    }

    private static void boxHours() {
        Script.run(C, "42: of at least 24 hours", Lines.TWO, "pass 2", Lines.PRESS, """
            pass 23
            box 0 1 1 ! none
            box 0 1 0 ! argument
            pass 1
            box 0 1 1 = 0
            pass 1
            box 0 2 1 = 1
            """);
    }

    private static void boxTwenty() {
        Script.run(C, "42: 20 boxes", Lines.TWO, Lines.times(11, Lines.PRESS), """
            pass 24
            10 * box 0 1 1 = 0..
            9 * box 0 2 1 = 10..
            box 0 2 3 ! none           # counts for none
            box 0 3 1 = 19
            inBox 19 0 = 20
            inBox 19 1 = 19
            box 0 2 1 ! state
            box 0 2 2 ! none           # one is there
            box 0 1 1 ! none
            box 0 2 0 ! argument
            box 0 2 10 ! argument
            box 0 4 1 ! index
            box 0 0 1 ! index
            box 1 2 1 ! index
            stateOf 21 = o
            """);
    }

    private static void inBox() {
        Script.run(C, "43: inBox", Lines.TWO, Lines.times(3, Lines.PRESS), """
            inBox 0 0 ! index
            pass 24
            box 0 3 2 = 0
            box 0 2 1 = 1
            inBox 0 0 = 0
            inBox 0 1 = 2
            inBox 0 2 = 1
            inBox 0 3 = 3
            inBox 0 4 ! index
            inBox 0 -1 ! index
            inBox 0 MIN ! index
            inBox 0 MAX ! index
            inBox 1 0 = 5
            inBox 1 1 ! index
            inBox 2 0 ! index
            inBox -1 0 ! index
            inBox MIN 0 ! index
            inBox MAX 0 ! index
            measure 5
            inBox 1 0 = 5
            """);
    }

    private static void causeNone() {
        Script.run(C, "44: tools", "6 * tool 0 1 false false 0", """
            cause 6 ! index
            cause -1 ! index
            cause MIN ! index
            cause MAX ! index
            cause 0 ! none
            cause 5 ! none
            """);
        Script.run(C, "44: bad parts that were taken out", Lines.BAD, """
            shot 0
            cause 0 ! none
            act 0 f
            cause 0 ! none
            act 0 t
            cause 0 = 101
            """);
        Script.run(C, "44: good ones in the mould do not speak against it", Lines.TWO, Lines.PRESS, """
            pass 24
            setNominal 0 0 90000 0
            setNominal 0 1 90000 0
            measure 0; measure 1
            shot 0
            cause 0 = 200              # all that are out are bad, of both cavities
            act 0 f; act 0 t
            cause 0 ! none             # two good ones have all that the bad ones have
            """);
        Script.run(C, "44: a good one speaks against it, the first one or the last one", Lines.TWO, Lines.PRESS, Lines.PRESS, """
            pass 24
            setNominal 0 0 90000 0
            setNominal 0 1 90000 0
            measure 2
            cause 0 ! none             # the part 0 is good
            measure 0
            cause 0 = 100
            measure 1
            cause 0 ! none             # the part 3 is good
            measure 3
            cause 0 = 200              # no cavity has all the bad ones
            """);
        Script.run(C, "44: of another tool", Lines.BAD, Lines.PRESS, """
            tool 0 1 false false 0 = 1
            cause 1 ! none
            cause 0 = 101
            """);
    }

    private static void causeOrder() {
        String lots = "23 * lot 0 100 0 = 1..\n";
        Script.run(C, "44: a cavity ahead of a lot", Lines.BEGUN, """
            tool 0 1 false false 9999
            cell 0 0 50 1 0 3
            """, Lines.MOUNTED, Lines.PRESS, """
            cause 0 = 103
            """);
        Script.run(C, "44: the lowest lot ahead of the setting", Lines.TWO, lots, """
            feed 0 0 0
            feed 0 23 50
            feed 0 22 50
            """, Lines.PRESS, """
            feed 0 22 0; feed 0 23 0
            feed 0 0 100
            setting 0 20 10 5
            """, Lines.PRESS, """
            pass 24
            setNominal 0 0 90000 0
            setNominal 0 1 90000 0
            measure 0
            cause 0 ! none             # the part 1 is of the same lots, and good; the part 2 of the cavity 0
            measure 1
            cause 0 = 222
            """);
        Script.run(C, "44: a lot of which no grams were taken", Lines.TWO, lots, """
            feed 0 0 92
            feed 0 23 8
            """, Lines.PRESS, "feed 0 23 0\nfeed 0 0 100", Lines.PRESS, """
            lotIn 0 23 = 0
            pass 24
            setNominal 0 0 90000 0
            setNominal 0 1 90000 0
            measure 0; measure 1
            cause 0 ! none
            """);
        Script.run(C, "44: the last lot", Lines.TWO, lots, """
            feed 0 0 90
            feed 0 23 10
            """, Lines.PRESS, "feed 0 23 0\nfeed 0 0 100", Lines.PRESS, """
            pass 24
            setNominal 0 0 90000 0
            setNominal 0 1 90000 0
            measure 0; measure 1
            cause 0 = 223
            """);
        Script.run(C, "44: a setting, when no lot tells them apart", Lines.TWO, Lines.PRESS, "setting 0 20 10 5", Lines.PRESS, """
            pass 24
            setNominal 0 0 90000 0
            setNominal 0 1 90000 0
            measure 2; measure 3
            cause 0 = 301
            grind 0 ! none
            purge 0 0 1
            grind 0 = 1
            stateOf 2 = g
            cause 0 = 301              # ground ones count
            box 0 3 1 = 0
            cause 0 = 301              # those in boxes, too
            """);
        Script.run(C, "44: a ground one that is not of it", Lines.BAD, Lines.PRESS, """
            setNominal 0 0 90000 0
            pass 24
            grind 0
            measure 0 = false
            cause 0 = 200
            """);
    }

    private static void sums() {
        Script.run(C, "45: parts", Lines.TWO, """
            parts = 0
            shot 0
            parts = 2
            shot 0 ! state
            parts = 2
            """);
        Script.run(C, "46 and 47: the first and the last resin", """
            6 * resin 1 1 0 0 0 false
            lot 0 100000 0
            lot 5 1 0
            lot 5 100000 0
            lot 5 0 0 ! argument
            brought 0 = 100000
            brought 1 = 0
            brought 5 = 100001
            lost 0 = 0
            lost 5 = 0
            """);
        Script.run(C, "46 and 47: all that can be brought, and grinding", Lines.BEGUN, "22 * lot 0 100000 0", """
            brought 0 = 2300000
            purge 0 0 1; purge 0 0 0; purge 0 0 1; purge 0 0 1
            waste 0 = 110
            grind 0 = 23
            lost 0 = 2
            grams 23 = 108
            brought 0 = 2300000
            isTrue = true
            """);
    }

    private static void shares() {
        Script.run(C, "48 and 49: none, one, two and three", Lines.BAD, """
            badShare ! arithmetic
            meanShrinking ! arithmetic
            block 0 0 true
            """, Lines.PRESS, """
            badShare = 1.0
            meanShrinking = 1000.0
            block 0 0 false
            block 0 1 true
            """, Lines.PRESS, """
            badShare = 0.5
            meanShrinking = 975.0
            """, Lines.PRESS, """
            badShare = 0.33333334
            meanShrinking = 966.6666666666666
            """);
        Script.run(C, "48: none is bad", Lines.TWO, """
            shot 0
            badShare = 0.0
            meanShrinking = 950.0
            """);
        Script.run(C, "49: no shrinking", Lines.TWO, """
            setNozzle 0 0 h; setNozzle 0 1 h; setNozzle 0 2 h
            setting 0 20 99 60
            shot 0
            meanShrinking = 0.0
            badShare = 0.0
            """);
    }

    private static void isTrue() {
        Script.run(C, "50: nothing but resins and lots", "6 * resin 1 1 0 0 0 false\n24 * lot 5 100000 400\nisTrue = true");
        Script.run(C, "50: at each step", Lines.BAD.replace("100 false", "100 true"), """
            isTrue = true
            shot 0
            isTrue = true
            act 0 o; act 0 f; act 0 t; act 0 b; act 0 i
            isTrue = true
            grind 0
            isTrue = true
            pass 24
            measure 0
            isTrue = true
            box 0 1 1
            isTrue = true
            setNominal 0 0 90000 0; setFlow 0 0 0; setNozzle 0 1 h; block 0 0 true; setting 0 1 99 60
            isTrue = true
            shot 0
            isTrue = true
            """);
    }
}
