/** Promises 10 to 18 at their edges: each range, each count, each exception and what comes first. */
public final class ToolEdgeTests {
    private static final Check C = new Check("edges of tools");
    private static final String SIX_TOOLS = "6 * tool 0 1 false false 0\n";
    private static final String FULL_TOOL = """
        tool 0 1 false false 0
        18 * cell 0 0 1 1 0 0 = 1..
        """;

    public static void main(String[] args) {
        tool();
        cell();
        cellRefused();
        cellZero();
        join();
        block();
        setFlow();
        setNozzle();
        setNominal();
        freezing();
        serve();
        C.end();
    }

    private static void tool() {
        Script.edges(C, "10: tool", "", "tool [0..3] [1..999] false false [0..9999]");
        Script.edges(C, "10: tool with slides, for food", "", "tool [0..3] [1..999] true true [0..9999]");
        Script.run(C, "10: six tools", """
            5 * tool 0 1 false false 0 = 0..
            tool 0 0 false false 0 ! argument        # counts for none
            tool 3 999 true true 9999 = 5
            tool 0 1 false false 0 ! state
            tool 4 1 false false 0 ! argument
            tool 0 1000 false false 0 ! argument
            tool 0 1 false false 10000 ! argument
            freezing 5 0 = 25
            freezing 6 0 ! index
            """);
    }

    private static void cell() {
        Script.edges(C, "11: cell", SIX_TOOLS, "cell <0..5> <0..0> [1..50] [1..9] [0..3] [-1..3]");
        Script.edges(C, "11: cell on a cell", FULL_TOOL, "cell <0..0> <0..18> [1..50] [1..9] [0..3] [-1..3]");
        Script.run(C, "11: 20 cells", FULL_TOOL, """
            cell 0 19 1 1 0 0 ! index
            cell 0 18 0 1 0 0 ! argument             # counts for none
            cell 0 18 50 9 3 3 = 19
            cell 0 19 1 1 0 0 ! state
            cell 0 20 1 1 0 0 ! index
            cell 0 20 0 1 0 0 ! index
            cell 0 0 51 1 0 0 ! argument
            cell 0 0 1 10 0 0 ! argument
            cell 0 0 1 1 4 0 ! argument
            cell 0 0 1 1 0 4 ! argument
            cell 1 0 1 1 0 0 ! index
            freezing 0 19 = 81
            freezing 0 20 ! index
            tool 0 1 false false 0 = 1
            cell 1 0 1 1 0 0 = 1                     # 20 are for each tool
            """);
    }

    private static void cellRefused() {
        Script.run(C, "11: a tool that made a shot", Lines.TWO, """
            cell 0 2 1 1 0 -1 = 3                    # on a machine, but not used
            shot 0
            cell 0 0 1 1 0 0 ! unsupported
            cell 0 3 1 1 0 -1 ! unsupported
            cell 0 0 0 1 0 0 ! argument
            cell 0 0 1 1 0 4 ! argument
            cell 0 4 1 1 0 0 ! index
            cell 0 -1 0 1 0 0 ! index
            cell 1 0 1 1 0 0 ! index
            freezing 0 4 ! index
            """);
        Script.run(C, "11: a refused cell brings no cavity", Lines.TWO.replace("5 3 0 0\n", "5 3 0 2\n"), """
            shot 0
            cell 0 0 1 1 0 0 ! unsupported
            cell 0 0 1 1 0 3 ! unsupported
            cell 0 0 51 1 0 3 ! argument
            points 0 0 ! index
            points 0 3 ! index
            block 0 0 true ! index
            """);
        Script.run(C, "11: a tool that made a shot, of 20 cells", Lines.TWO, "17 * cell 0 0 1 1 0 -1 = 3..", """
            cell 0 0 1 1 0 0 ! state
            shot 0
            cell 0 0 1 1 0 0 ! unsupported           # ahead of the 20 cells
            cell 0 0 1 1 0 -2 ! argument
            cell 0 20 1 1 0 0 ! index
            """);
        Script.run(C, "11: a shot that was refused is none", Lines.TWO, """
            feed 0 0 99
            shot 0 ! unsupported
            cell 0 0 1 1 0 -1 = 3
            join 0 2 3 = true
            """);
        Script.run(C, "11: what was foreseen is no shot", Lines.TWO, """
            foresee 0 = -
            cell 0 0 1 1 0 -1 = 3
            """);
        Script.run(C, "11: a served tool made a shot", Lines.TWO, Lines.PRESS, """
            tool 0 1 false false 0 = 1
            mount 0 1 0 = 0
            serve 0 = 1
            cell 0 0 1 1 0 0 ! unsupported
            join 0 1 2 ! unsupported
            """);
    }

    private static void cellZero() {
        Script.run(C, "11: the cell 0 has 2 grams, the wall 5, the circuit 0, no cavity", Lines.BEGUN, """
            tool 1 100 false false 400
            cell 0 0 1 1 1 0
            mount 0 0 0
            setting 0 1 0 0
            purge 0 0 0
            feed 0 0 100
            freezing 0 0 = 25
            shot 0
            tickOf 0 0 false = 1
            tickOf 0 1 false = 3                     # 2 grams at a speed of 1
            tickOf 0 0 true = 26
            last 0 l = 31                            # and the wall of 5
            last 0 g = 3
            partOf 0 g = 1
            waste 0 = 22
            setFlow 0 1 9 = 5
            freezing 0 0 = 25
            setFlow 0 0 9 = 5
            freezing 0 0 = 18
            """);
    }

    private static void join() {
        Script.run(C, "12: numbers of cells", FULL_TOOL, """
            cell 0 0 1 1 0 0 = 19
            join 0 20 0 ! index
            join 0 0 20 ! index
            join 0 -1 0 ! index
            join 0 0 -1 ! index
            join 0 -1 -1 ! index                     # ahead of both the same
            join 0 20 20 ! index
            join 0 MIN 0 ! index
            join 0 0 MAX ! index
            join 1 0 1 ! index
            join -1 0 0 ! index
            join 0 0 0 ! argument
            join 0 19 19 ! argument
            join 0 19 0 = false                      # it hangs on it
            join 0 0 19 = false
            join 0 19 18 = true
            join 0 18 19 = false
            join 0 1 19 = true
            join 0 19 1 = false
            """);
        Script.run(C, "12: a tool that made a shot", Lines.TWO, """
            shot 0
            join 0 1 2 ! unsupported
            join 0 0 1 ! unsupported                 # though they are beside each other
            join 0 1 1 ! argument
            join 0 0 3 ! index
            join 0 3 3 ! index
            join 1 0 1 ! index
            join 0 -1 1 ! index
            """);
        Script.run(C, "12: a refused join joins nothing", Lines.TWO, """
            join 0 1 3 ! index
            join 0 1 1 ! argument
            foresee 0 = -
            join 0 1 2 = true
            foresee 0 = w
            """);
    }

    private static void block() {
        String tool = """
            6 * tool 0 1 false false 0
            cell 5 0 1 1 0 0
            cell 5 0 1 1 0 3
            cell 5 0 1 1 0 -1
            """;
        Script.run(C, "13: tools and cavities in them", tool, """
            block 5 0 false = false
            block 5 3 true = false
            block 5 3 true = true
            block 5 3 false = true
            block 5 3 false = false
            block 5 1 true ! index
            block 5 2 true ! index
            block 5 -1 true ! index                  # of no cavity
            block 5 4 true ! index
            block 5 MIN true ! index
            block 5 MAX true ! index
            block 0 0 true ! index
            block 6 0 true ! index
            block -1 0 true ! index
            block 5 0 false = false
            """);
    }

    private static void setFlow() {
        Script.edges(C, "14: setFlow", SIX_TOOLS, "setFlow <0..5> [0..3] [0..9]");
        Script.run(C, "14: four circuits of each tool", SIX_TOOLS, """
            setFlow 0 0 0 = 5
            setFlow 0 3 9 = 5
            setFlow 5 3 1 = 5
            setFlow 0 0 9 = 0
            setFlow 0 3 0 = 9
            setFlow 5 3 5 = 1
            setFlow 0 1 5 = 5
            setFlow 0 2 5 = 5
            """);
    }

    private static void setNozzle() {
        StringBuilder ways = new StringBuilder();
        for (int sign : new int[] {0, 'H', 'F', 'g', 'i', 'e', ',', '.', ' ', '+', '_', 127, 255, 256 + 'h', 65535}) {
            ways.append("setNozzle 0 0 @").append(sign).append(" ! argument\n");
        }
        Script.run(C, "15: ways of a nozzle", FULL_TOOL, """
            cell 0 0 1 1 0 0 = 19
            setNozzle 0 0 h = -
            setNozzle 0 19 f = -
            """ + ways + """
            setNozzle 0 20 h ! index
            setNozzle 0 20 x ! index
            setNozzle 0 -1 x ! index
            setNozzle 0 MIN h ! index
            setNozzle 0 MAX h ! index
            setNozzle 1 0 h ! index
            setNozzle 1 0 x ! index
            setNozzle -1 0 h ! index
            setNozzle 0 0 f = h
            setNozzle 0 0 - = f
            setNozzle 0 0 - = -
            setNozzle 0 19 h = f
            setNozzle 0 1 - = -
            """);
    }

    private static void setNominal() {
        String tool = "6 * tool 0 1 false false 0\ncell 5 0 1 1 0 0\ncell 5 0 1 1 0 3\ncell 0 0 1 1 0 0\n";
        Script.edges(C, "16: setNominal", tool, "setNominal 5 0 [90000..100000] [0..9999]");
        Script.edges(C, "16: setNominal of the last cavity", tool, "setNominal 5 3 [90000..100000] [0..9999]");
        Script.edges(C, "16: tools and cavities", "tool 0 1 false false 0\n4 * cell 0 0 1 1 0 0\ncell 0 0 1 1 0 1\n",
            "setNominal <0..0> <0..1> [90000..100000] [0..9999]");
        Script.run(C, "16: the size before", tool, """
            setNominal 5 0 90000 0 = 100000
            setNominal 5 0 89999 0 ! argument
            setNominal 5 0 90000 10000 ! argument
            setNominal 5 1 90000 0 ! index
            setNominal 5 2 0 0 ! index
            setNominal 5 0 100000 9999 = 90000
            setNominal 5 3 99999 1 = 100000          # for each cavity
            setNominal 0 0 99998 1 = 100000          # of each tool
            setNominal 5 3 99999 1 = 99999
            """);
        Script.run(C, "16: a refused size leaves the tolerance, and a refused tolerance the size", Lines.TWO, Lines.PRESS, """
            pass 24
            setNominal 0 0 99000 50
            setNominal 0 0 89999 9999 ! argument
            setNominal 0 0 100001 9999 ! argument
            setNominal 0 0 89999 49 ! argument
            setNominal 0 0 100001 49 ! argument
            setNominal 0 0 99001 10000 ! argument
            setNominal 0 0 98999 -1 ! argument
            setNominal 0 2 98999 1 ! index
            measure 0 = true                         # 50 off
            warning 0 0 ! none
            setNominal 0 0 99000 49 = 99000
            warning 0 0 = 0
            """);
        Script.run(C, "16: the tolerance is 9999 at first", Lines.BEGUN.replace("3 10 50", "3 50 50"), """
            tool 0 1 false false 0
            cell 0 0 1 9 0 0
            """, Lines.MOUNTED, "setting 0 20 0 0", Lines.PRESS, """
            pass 24
            size 0 = 95000
            measure 0 = true
            """);
        Script.run(C, "16: 9999 off and 10000 off", Lines.BEGUN.replace("3 10 50", "3 50 50"), """
            tool 0 1 false false 9999
            cell 0 0 5 9 0 0
            cell 0 0 5 9 0 1
            setNozzle 0 0 h
            """, Lines.MOUNTED, "setting 0 20 1 1", Lines.PRESS, """
            setting 0 20 99 51
            """, Lines.PRESS, """
            pass 24
            setNominal 0 0 90000 9999 = 100000
            size 0 = 95001
            size 2 = 100000                          # 51 ticks of 99 leave nothing of 5000
            measure 0 = true                         # 5001 off
            measure 2 = false                        # 10000 off
            setNominal 0 1 90001 9999 = 100000
            measure 3 = true                         # 9999 off
            """);
    }

    private static void freezing() {
        for (int flow = 0; flow <= 9; flow++) {
            StringBuilder lines = new StringBuilder("tool 0 1 false false 0\n");
            for (int wall = 1; wall <= 9; wall++) {
                lines.append("cell 0 0 1 ").append(wall).append(" 2 0\n");
            }
            lines.append("setFlow 0 2 ").append(flow).append(" = 5\n");
            for (int wall = 1; wall <= 9; wall++) {
                int ticks = 0;
                while (ticks * (5 + flow) < wall * wall * 10) {
                    ticks++;
                }
                lines.append("freezing 0 ").append(wall).append(" = ").append(ticks).append('\n');
            }
            Script.run(C, "17: a flow of " + flow, lines.toString());
        }
        Script.edges(C, "17: freezing", "6 * tool 0 1 false false 0\n19 * cell 5 0 1 1 0 0", "freezing 5 <0..19>");
        Script.edges(C, "17: freezing of tools", SIX_TOOLS, "freezing <0..5> <0..0>");
        Script.run(C, "17: nozzles aside", "tool 0 1 false false 0", """
            setNozzle 0 0 h
            freezing 0 0 = 25
            setNozzle 0 0 f
            freezing 0 0 = 25
            """);
    }

    private static void serve() {
        Script.edges(C, "18: serve", SIX_TOOLS, "serve <0..5>");
        Script.run(C, "18: on a machine", Lines.TWO, """
            serve 0 ! state
            serve 1 ! index
            """, Lines.PRESS, """
            serve 0 ! state
            tool 0 1 false false 0 = 1
            serve 1 = 0
            mount 0 1 0 = 0
            serve 1 ! state
            serve 0 = 1
            serve 0 = 0
            mount 0 0 0 = 1
            serve 1 = 0
            """);
        String spare = "tool 0 1 false false 0 = 1\n";
        Script.run(C, "18: 49 shots, then one, then none", Lines.TWO, spare, Lines.times(49, Lines.PRESS), """
            shot 0 = 31                              # the 50th
            act 0 f; act 0 t; act 0 b
            shot 0 ! state
            mount 0 1 0 = 0
            mount 0 0 0 = 1
            shot 0 ! state                           # mounting is no service
            mount 0 1 0 = 0
            serve 0 = 50
            mount 0 0 0 = 1
            shot 0 = 31
            parts = 102
            """);
    }
}
