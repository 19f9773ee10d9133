/** Promises 27 to 32 at their edges: what refuses a shot, what comes first, and the order of acts. */
public final class ShotEdgeTests {
    private static final Check C = new Check("edges of shots");

    public static void main(String[] args) {
        shotNumbers();
        shotMisses();
        shotHopper();
        shotRegrind();
        shotWater();
        shotLots();
        shotOfTheMachine();
        shotMould();
        shotService();
        shotParts();
        foresee();
        last();
        tickOf();
        actWithSlides();
        actWithoutSlides();
        actRefused();
        breakRobot();
        C.end();
    }

    private static void shotNumbers() {
        Script.run(C, "27: numbers of machines", Lines.TWO, """
            3 * machine 1 1 1 10 = 1..
            shot 4 ! index
            shot -1 ! index
            shot MIN ! index
            shot MAX ! index
            shot 3 ! none
            shot 0 = 31
            """);
    }

    private static void shotMisses() {
        Script.run(C, "27: nothing is there", Lines.BEGUN, """
            shot 0 ! none
            breakRobot 0 true
            shot 0 ! none              # and the robot is broken
            """);
        String tool = """
            tool 1 100 false false 400
            cell 0 0 5 3 0 0
            cell 0 0 5 3 0 1
            """;
        Script.run(C, "27: no tool", Lines.BEGUN, tool, """
            setting 0 20 10 5
            purge 0 0 0
            shot 0 ! none              # and the hopper is empty
            feed 0 0 100
            shot 0 ! none
            mount 0 0 0
            shot 0 = 31
            """);
        Script.run(C, "27: no setting", Lines.BEGUN, tool, """
            mount 0 0 0
            purge 0 0 0
            shot 0 ! none
            feed 0 0 100
            shot 0 ! none
            setting 0 20 10 5
            shot 0 = 31
            """);
        Script.run(C, "27: no resin", Lines.BEGUN, tool, """
            mount 0 0 0
            setting 0 20 10 5
            shot 0 ! none
            purge 0 0 0
            shot 0 ! unsupported       # an empty hopper is not right
            feed 0 0 100
            shot 0 = 31
            """);
        Script.run(C, "27: no cavity is open", Lines.TWO, """
            block 0 0 true
            block 0 1 true
            shot 0 ! none
            feed 0 0 99
            shot 0 ! none              # and the hopper is not right
            feed 0 0 100
            breakRobot 0 true
            shot 0 ! none              # and the robot is broken
            breakRobot 0 false
            block 0 1 false
            shot 0 = 31
            parts = 1
            shot 0 ! state
            block 0 1 true
            shot 0 ! none              # and a part is in the mould
            """);
        Script.run(C, "27: a tool without cavities", Lines.BEGUN, """
            tool 0 1 false false 0
            cell 0 0 5 3 0 -1
            """, Lines.MOUNTED, "shot 0 ! none");
    }

    private static void shotHopper() {
        Script.run(C, "27: the shares sum to 100", Lines.TWO, """
            lot 0 100 0
            feed 0 0 99
            shot 0 ! unsupported
            feed 0 1 2 = 101
            shot 0 ! unsupported
            feed 0 1 1 = 100
            shot 0 = 31
            """);
        Script.run(C, "27: 200 and 0", Lines.TWO, """
            lot 0 100 0
            feed 0 1 100 = 200
            shot 0 ! unsupported
            feed 0 0 0; feed 0 1 0
            shot 0 ! unsupported
            """);
        Script.run(C, "27: a hopper that is not right comes ahead of the rest", Lines.TWO.replace("200 500", "200 11"), """
            shot 0 ! state             # 12 grams are above 11
            feed 0 0 99
            shot 0 ! unsupported
            breakRobot 0 true
            shot 0 ! unsupported
            """);
        Script.run(C, "27: a hopper that is not right, and a part in the mould", Lines.TWO, """
            shot 0
            shot 0 ! state
            feed 0 0 99
            shot 0 ! unsupported
            act 0 f
            shot 0 ! unsupported
            """);
    }

    /** The lots 1 to 3 are of generation 1, 2 and 3; all have the grams for a shot of 12. */
    private static String regrind(int share, int generations) {
        String twelve = """
            purge 0 0 1
            purge 0 0 0 = 50
            """;
        String generation = Lines.TWO.replace("3 10 50 2 300", "3 10 " + share + " " + generations + " 300") + twelve + "grind 0 = 1\n"
            + "purge 0 1 1\n" + twelve + "grind 0 = 2\n" + "purge 0 2 1\n" + twelve + "grind 0 = 3\n";
        return generation + """
            generation 1 = 1
            generation 2 = 2
            generation 3 = 3
            """;
    }

    private static void shotRegrind() {
        Script.run(C, "27: a share of regrind of 50", regrind(50, 5), """
            feed 0 0 49
            feed 0 1 51 = 100
            shot 0 ! unsupported
            feed 0 0 50
            feed 0 1 50 = 100
            shot 0 = 31
            """);
        Script.run(C, "27: together", regrind(50, 5), """
            feed 0 0 49
            feed 0 1 25
            feed 0 2 26 = 100
            shot 0 ! unsupported
            feed 0 0 50
            feed 0 2 25 = 100
            shot 0 = 31
            """);
        Script.run(C, "27: none", regrind(0, 5), """
            feed 0 0 99
            feed 0 1 1 = 100
            shot 0 ! unsupported
            feed 0 1 0; feed 0 0 100
            shot 0 = 31
            """);
        Script.run(C, "27: all", regrind(100, 5), """
            feed 0 1 50
            feed 0 2 49
            feed 0 3 1 = 100
            shot 0 = 31
            """);
        Script.run(C, "27: 99 and 100 of all", regrind(99, 5), """
            feed 0 1 100 = 100
            shot 0 ! unsupported
            feed 0 1 99
            feed 0 0 1 = 100
            shot 0 = 31
            """);
        Script.run(C, "27: a generation of 2", regrind(100, 2), """
            feed 0 0 99
            feed 0 3 1 = 100
            shot 0 ! unsupported
            feed 0 3 0
            feed 0 2 1 = 100
            shot 0 = 31
            """);
        Script.run(C, "27: a generation of 0", regrind(100, 0), """
            feed 0 0 99
            feed 0 1 1 = 100
            shot 0 ! unsupported
            breakRobot 0 true
            shot 0 ! unsupported       # ahead of the robot
            breakRobot 0 false
            feed 0 1 0; feed 0 0 100
            shot 0 = 31
            """);
    }

    private static void shotWater() {
        Script.run(C, "27: water of 300", Lines.TWO, """
            lot 0 100 301
            lot 0 100 300
            feed 0 0 99
            feed 0 1 1 = 100           # gives no gram, but is there
            shot 0 ! unsupported
            breakRobot 0 true
            shot 0 ! unsupported
            breakRobot 0 false
            feed 0 1 0
            feed 0 2 1 = 100
            shot 0 = 31
            """);
        Script.run(C, "27: an hour that goes by", Lines.TWO, """
            pass 100; pass 100
            pass 100 = 300
            water 0 = 300
            shot 0 = 31
            act 0 f; act 0 t; act 0 b
            pass 1
            shot 0 ! unsupported
            dry 0 1 = 225
            shot 0 = 31
            """);
        Script.run(C, "27: no water", Lines.TWO.replace("50 2 300", "50 2 0"), """
            shot 0 = 31
            act 0 f; act 0 t; act 0 b
            pass 1
            shot 0 ! unsupported
            dry 0 1 = 0
            shot 0 = 31
            """);
    }

    private static void shotLots() {
        Script.run(C, "27: just enough of the first lot", Lines.TWO.replace("lot 0 100000", "lot 0 32"), """
            grams 0 = 12
            shot 0 = 31
            grams 0 = 0
            """);
        Script.run(C, "27: too few by one", Lines.TWO.replace("lot 0 100000", "lot 0 31"), """
            grams 0 = 11
            shot 0 ! state
            lot 0 0 0 ! argument
            """);
        Script.run(C, "27: of the second lot", Lines.TWO, """
            lot 0 6 0
            lot 0 5 0
            feed 0 0 50
            feed 0 2 50 = 100
            shot 0 ! state
            feed 0 2 0
            feed 0 1 50 = 100
            shot 0 = 31
            grams 1 = 0
            lotIn 1 1 = 6
            lotIn 1 0 = 6
            """);
        Script.run(C, "27: the rest of the first lot must be there", Lines.TWO, """
            lot 0 6 0
            lot 0 7 0
            feed 0 0 0
            feed 0 1 50
            feed 0 0 49                # 5 of 12 grams, cut
            shot 0 ! unsupported
            feed 0 1 51                # 6 of 12 grams, cut, and the rest of 1
            shot 0 ! state
            feed 0 0 0; feed 0 1 0
            feed 0 2 51
            feed 0 0 49
            shot 0 = 31
            lotIn 0 2 = 7
            lotIn 0 0 = 5
            grams 2 = 0
            """);
        Script.run(C, "27: a lot without grams, of which none are taken", Lines.TWO, """
            lot 0 20 0
            purge 0 1 0 = 20
            feed 0 0 92
            feed 0 1 8 = 100
            shot 0 = 31                # 8 hundredths of 12 are 0
            lotIn 0 0 = 12
            lotIn 0 1 = 0
            act 0 f; act 0 t; act 0 b
            feed 0 0 91
            feed 0 1 9 = 100
            shot 0 ! state             # 9 hundredths are 1
            """);
    }

    private static void shotOfTheMachine() {
        Script.run(C, "27: a shot of 12", Lines.TWO.replace("200 500", "200 12"), "shot 0 = 31");
        Script.run(C, "27: a shot of 11", Lines.TWO.replace("200 500", "200 11"), """
            shot 0 ! state
            block 0 0 true
            shot 0 = 31                # 7 grams
            """);
    }

    private static void shotMould() {
        String refused = """
            shot 0 ! state
            shot 1 ! index
            """;
        Script.run(C, "27: with slides", Lines.SLIDES, "shot 0 = 31", refused, "act 0 o", refused, "act 0 f", refused,
            "act 0 t", refused, "act 0 b", refused, "act 0 i = s", "shot 0 = 31");
        Script.run(C, "27: without slides", Lines.TWO, "shot 0 = 31", refused, "act 0 f", refused, "act 0 t", refused,
            "act 0 b = s", "shot 0 = 31");
        Script.run(C, "27: the robot", Lines.TWO, """
            breakRobot 0 true
            shot 0 ! state
            breakRobot 0 false
            shot 0 = 31
            """);
        Script.run(C, "27: the robot of another machine", Lines.TWO, """
            machine 1 1 1 10
            breakRobot 1 true
            shot 0 = 31
            """);
    }

    private static void shotService() {
        Script.run(C, "27: the 50th and the 51st", Lines.TWO, Lines.times(49, Lines.PRESS), """
            shot 0 = 31
            act 0 f; act 0 t; act 0 b
            shot 0 ! state
            feed 0 0 99
            shot 0 ! unsupported
            feed 0 0 100
            block 0 0 true; block 0 1 true
            shot 0 ! none
            """);
        Script.run(C, "27: shots count for the tool, not for the machine", Lines.TWO, """
            tool 0 1 false false 400 = 1
            cell 1 0 5 3 0 0
            """, Lines.times(50, Lines.PRESS), """
            mount 0 1 0 = 0
            shot 0 = 31
            """);
    }

    private static void shotParts() {
        String four = Lines.BEGUN + """
            tool 0 1 false false 9999
            4 * cell 0 0 1 9 0 0
            """;
        String spread = Lines.BEGUN + """
            tool 0 1 false false 9999
            cell 0 0 1 9 0 0
            cell 0 0 1 9 0 1
            cell 0 0 1 9 0 2
            cell 0 0 1 9 0 3
            tool 0 1 false false 9999
            cell 1 0 1 9 0 0
            """ + Lines.MOUNTED;
        Script.run(C, "27: 200 parts", spread, Lines.times(49, Lines.PRESS), """
            parts = 196
            shot 0
            parts = 200
            act 0 f; act 0 t; act 0 b
            shot 0 ! state
            mount 0 1 0 = 0
            shot 0 ! state             # for one part, too
            feed 0 0 99
            shot 0 ! unsupported
            partOf 199 c = 3
            partOf 200 c ! index
            """);
        Script.run(C, "27: 199 and 2", spread, "block 0 3 true\n", Lines.times(49, Lines.PRESS), """
            parts = 147
            mount 0 1 0 = 0
            """, Lines.times(49, Lines.PRESS), """
            parts = 196
            mount 0 0 0 = 1
            shot 0
            parts = 199
            act 0 f; act 0 t; act 0 b
            mount 0 1 0 = 0
            shot 0
            parts = 200
            act 0 f; act 0 t; act 0 b
            shot 0 ! state
            """);
        Script.run(C, "27: one cavity of four cells is one part", four, Lines.MOUNTED, "shot 0\nparts = 1");
    }

    private static void foresee() {
        Script.run(C, "28: what is not there", Lines.BEGUN, """
            3 * machine 1 1 1 10
            foresee 4 ! index
            foresee -1 ! index
            foresee MIN ! index
            foresee MAX ! index
            foresee 3 ! none
            foresee 0 ! none
            tool 0 1 false false 0
            setting 0 1 0 0
            purge 0 0 0
            foresee 0 ! none           # no tool
            setting 1 1 0 0
            mount 1 0 0
            foresee 1 ! none           # no resin
            tool 0 1 false false 0
            mount 2 1 0
            purge 2 0 0
            foresee 2 ! none           # no setting
            setting 2 1 0 0
            foresee 2 = -
            """);
        Script.run(C, "28: it looks, whatever refuses a shot", Lines.TWO, """
            feed 0 0 0
            breakRobot 0 true
            block 0 0 true
            block 0 1 true
            foresee 0 = -
            shot 0 ! none
            parts = 0
            last 0 l ! none
            """);
        Script.run(C, "28: it leaves the last shot", Lines.TWO, """
            shot 0
            block 0 0 true
            setting 0 1 99 60
            foresee 0 = -
            last 0 g = 12
            last 0 l = 31
            tickOf 0 1 false = 2
            partOf 0 s = 950
            isTrue = true
            """);
        Script.run(C, "28: by the tool as it is", Lines.BAD, """
            foresee 0 = t
            block 0 1 true
            foresee 0 = -
            block 0 1 false
            setNozzle 0 2 h
            foresee 0 = t              # the cell 0 freezes in 26, with 25 of 50 grams behind it
            setNozzle 0 0 h
            foresee 0 = -
            setNozzle 0 2 f
            foresee 0 = t
            """);
        Script.run(C, "28: the first one that holds", Lines.BEGUN, """
            tool 1 1 false false 9999
            cell 0 0 5 3 0 0
            cell 0 0 5 3 0 0
            cell 0 0 50 1 0 1
            cell 0 3 5 1 0 1
            join 0 1 2
            """, Lines.MOUNTED, """
            foresee 0 = s              # short, with a weld; the cell 3 has 4 beside it, which is not full
            block 0 1 true
            foresee 0 = w
            """);
        Script.run(C, "28: each look is by itself", Lines.BEGUN, """
            tool 1 1 false false 9999
            cell 0 0 5 9 0 0
            cell 0 0 1 1 0 1
            cell 0 0 1 1 0 2
            join 0 2 3
            """, Lines.MOUNTED, """
            foresee 0 = w              # 2 and 3 are reached in 2 and freeze in 3
            block 0 2 true
            foresee 0 = -
            setting 0 1 0 0
            foresee 0 = -              # now 2 is reached in 8
            setNozzle 0 0 h; setNozzle 0 1 h; setNozzle 0 2 h
            foresee 0 = -
            setting 0 20 0 0
            50 * foresee 0 = -
            block 0 2 false
            foresee 0 = w
            """);
        Script.run(C, "28: a trap and a weld", Lines.BEGUN, """
            tool 1 1 false false 9999
            cell 0 0 5 3 0 0
            cell 0 0 5 3 0 0
            cell 0 0 50 1 0 1
            join 0 1 2
            """, Lines.MOUNTED, """
            foresee 0 = t
            shot 0
            last 0 w = 1
            last 0 t = 1
            last 0 n = 1
            """);
    }

    private static void last() {
        StringBuilder wrong = new StringBuilder();
        for (int sign : new int[] {0, 'L', 'F', 'W', 'T', 'N', 'G', 'm', 'c', 'h', 's', 'p', '-', ' ', 127, 255, 256 + 'l', 65535}) {
            wrong.append("last 0 @").append(sign).append(" ! argument\n");
        }
        Script.run(C, "29: no shot", Lines.TWO, wrong.toString(), """
            last 0 l ! none
            last 0 f ! none
            last 0 w ! none
            last 0 t ! none
            last 0 n ! none
            last 0 g ! none
            last 1 l ! index
            last 1 x ! index
            last -1 x ! index
            last MIN l ! index
            last MAX l ! index
            """);
        Script.run(C, "29: a shot", Lines.TWO, "3 * machine 1 1 1 10", "shot 0", wrong.toString(), """
            last 0 l = 31
            last 0 f = 3
            last 0 w = 0
            last 0 t = 0
            last 0 n = 0
            last 0 g = 12
            last 3 l ! none            # each machine has its own
            last 4 l ! index
            """);
        Script.run(C, "29: a shot that was refused is not the last one", Lines.TWO, """
            shot 0
            block 0 0 true
            shot 0 ! state
            last 0 g = 12
            act 0 f; act 0 t; act 0 b
            shot 0
            last 0 g = 7
            """);
    }

    private static void tickOf() {
        Script.run(C, "30: no shot", Lines.TWO, """
            machine 1 1 1 10
            tickOf 0 0 false ! none
            tickOf 0 0 true ! none
            tickOf 2 0 false ! index
            tickOf -1 0 false ! index
            tickOf 2 99 true ! index
            shot 0
            tickOf 1 0 false ! none
            """);
        Script.run(C, "30: cells of the last shot", Lines.TWO, """
            shot 0
            tickOf 0 0 false = 1
            tickOf 0 0 true = 26
            tickOf 0 2 false = 2
            tickOf 0 2 true = 11
            tickOf 0 3 false ! index
            tickOf 0 -1 false ! index
            tickOf 0 MIN true ! index
            tickOf 0 MAX true ! index
            act 0 f; act 0 t; act 0 b
            tool 0 1 false false 9999 = 1
            17 * cell 1 0 1 1 0 0
            mount 0 1 0 = 0
            tickOf 0 3 false ! index   # of the last shot, not of the tool that is there
            shot 0
            tickOf 0 17 false = 2
            tickOf 0 17 true = 3
            tickOf 0 18 false ! index
            """);
        Script.run(C, "30: not reached, not frozen", Lines.BAD, """
            cell 0 2 5 9 0 1 = 3
            setNozzle 0 0 h
            block 0 0 true
            shot 0
            tickOf 0 0 false = 1
            tickOf 0 0 true ! none     # a nozzle heats it
            tickOf 0 1 false ! none    # closed
            tickOf 0 1 true ! none
            tickOf 0 2 false = 2
            tickOf 0 2 true = 3
            tickOf 0 3 false ! none    # the cell 2 is not full
            tickOf 0 3 true ! none
            tickOf 0 4 true ! index
            """);
    }

    private static String refusedBut(char right) {
        StringBuilder lines = new StringBuilder();
        for (char what : "oftbi".toCharArray()) {
            if (what != right) {
                lines.append("act 0 ").append(what).append(" ! unsupported\n");
            }
        }
        return lines.toString();
    }

    private static void actWithSlides() {
        Script.run(C, "31: with slides", Lines.SLIDES, refusedBut(' '), "shot 0", refusedBut('o'), "act 0 o = f",
            refusedBut('f'), "act 0 f = t\nstateOf 0 = m\nstateOf 1 = m", refusedBut('t'), "act 0 t = b\nstateOf 0 = o\nstateOf 1 = o",
            refusedBut('b'), "act 0 b = i", refusedBut('i'), "act 0 i = s", refusedBut(' '), "shot 0 = 31", refusedBut('o'));
    }

    private static void actWithoutSlides() {
        Script.run(C, "31: without slides", Lines.TWO, refusedBut(' '), "shot 0", refusedBut('f'), "act 0 f = t",
            refusedBut('t'), "act 0 t = b", refusedBut('b'), "act 0 b = s", refusedBut(' '), "shot 0 = 31", refusedBut('f'));
    }

    private static void actRefused() {
        StringBuilder wrong = new StringBuilder();
        for (int sign : new int[] {0, 's', 'O', 'F', 'T', 'B', 'I', '-', ' ', 'a', 'g', 'e', 'n', 'p', 'u', 127, 255, 256 + 'o', 65535}) {
            wrong.append("act 0 @").append(sign).append(" ! argument\n");
        }
        Script.run(C, "31: no such act", Lines.BEGUN, wrong.toString(), """
            act 0 o ! none
            act 0 f ! none
            act 0 t ! none
            act 0 b ! none
            act 0 i ! none
            act 1 o ! index
            act 1 x ! index
            act -1 x ! index
            act MIN o ! index
            act MAX o ! index
            breakRobot 0 true
            act 0 t ! none             # no tool, though the robot is broken
            """);
        Script.run(C, "31: no such act, with parts in the mould", Lines.TWO, "shot 0", wrong.toString(), "act 0 f\nbreakRobot 0 true\n",
            wrong.toString(), "act 0 t ! state");
        Script.run(C, "31: it would collide, and the robot is broken", Lines.SLIDES, """
            breakRobot 0 true
            act 0 t ! unsupported      # without parts that were pressed
            breakRobot 0 false
            shot 0
            breakRobot 0 true
            act 0 t ! unsupported
            act 0 o = f
            act 0 t ! unsupported
            act 0 f = t
            act 0 t ! state
            act 0 b ! unsupported
            breakRobot 0 false
            act 0 t = b
            breakRobot 0 true
            act 0 t ! unsupported
            act 0 b = i
            act 0 i = s                # a broken one minds the taking alone
            """);
        Script.run(C, "31: the parts of the last shot of the machine", Lines.TWO, """
            machine 200 500 20 40 = 1
            tool 0 1 false false 9999 = 1
            cell 1 0 5 3 0 0
            mount 1 1 0
            setting 1 20 10 5
            purge 1 0 0
            feed 1 0 100
            shot 0
            shot 1
            act 1 f; act 1 t
            stateOf 2 = o
            stateOf 0 = m
            stateOf 1 = m
            act 1 b = s
            shot 1
            act 0 f; act 0 t
            stateOf 0 = o
            stateOf 3 = m
            """);
    }

    private static void breakRobot() {
        Script.run(C, "32: numbers of machines", "4 * machine 1 1 1 10", """
            breakRobot 0 true = false
            breakRobot 3 true = false
            breakRobot 4 true ! index
            breakRobot -1 true ! index
            breakRobot MIN false ! index
            breakRobot MAX false ! index
            breakRobot 0 true = true
            breakRobot 0 false = true
            breakRobot 0 false = false
            breakRobot 3 false = true
            breakRobot 1 false = false
            """);
    }
}
