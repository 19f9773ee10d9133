/** The sentences of "Terms" that name a boundary: at it, just below it and just above it. */
public final class TermsEdgeTests {
    private static final Check C = new Check("edges of the terms");

    public static void main(String[] args) {
        nozzles();
        gramsInATick();
        servedInATick();
        fullAsTheTickBegins();
        freezesAtTheEnd();
        sourcesThatFreeze();
        reachedFromOneThatIsNotFrozen();
        endOfFilling();
        welds();
        traps();
        holding();
        pressedOnlyWithTheCellZero();
        shrinking();
        length();
        cavities();
        theRestOfTheFirstLot();
        gramsOfAShot();
        generations();
        wasteOfGenerations();
        slides();
        calls();
        C.end();
    }

    /** A tool of the cells that are told, on a machine of the greatest speed, with a resin of a flow. */
    private static String made(int flow, String cells, int speed, int pressure, int ticks) {
        return Lines.BEGUN.replace("resin 3", "resin " + flow).replace("500 20", "500 99")
            + "tool 0 1 false false 9999\n" + cells
            + "mount 0 0 0\nsetting 0 " + speed + " " + pressure + " " + ticks + "\npurge 0 0 0\nfeed 0 0 100\n";
    }

    private static void nozzles() {
        String cells = "cell 0 0 5 9 0 0\ncell 0 0 5 3 0 1\n";
        Script.run(C, "a nozzle that heats, one that failed, none", made(3, cells, 20, 0, 0), """
            shot 0 = 92                # the wall of 9 freezes in 83
            tickOf 0 1 true = 83
            act 0 f; act 0 t; act 0 b
            setNozzle 0 1 h = -
            shot 0 = 35                # 26, and the wall of 9 has grams
            tickOf 0 1 true ! none
            act 0 f; act 0 t; act 0 b
            setNozzle 0 1 f = h
            shot 0 = 92
            tickOf 0 1 true = 83
            act 0 f; act 0 t; act 0 b
            setNozzle 0 1 - = f
            shot 0 = 92
            act 0 f; act 0 t; act 0 b
            setNozzle 0 0 h; setNozzle 0 1 h; setNozzle 0 2 h
            shot 0 = 12                # none freezes: 3 ticks of filling, and 9
            tickOf 0 0 true ! none
            tickOf 0 2 true ! none
            """);
    }

    private static void gramsInATick() {
        int[] thirds = {0, 0, 0, 1, 1, 1, 2, 2, 2, 3};
        for (int flow = 1; flow <= 9; flow++) {
            for (int wall = 1; wall <= 9; wall++) {
                int most = Math.max(1, 2 * wall - thirds[flow]);
                int ticks = 0;
                while (ticks * most < 50) {
                    ticks++;
                }
                Script.run(C, "a flow of " + flow + " and a wall of " + wall,
                    made(flow, "cell 0 0 50 " + wall + " 0 0\nsetNozzle 0 0 h\nsetNozzle 0 1 h\n", 99, 0, 0),
                    "shot 0 = " + (2 + ticks + Math.max(5, wall)), "last 0 f = " + (2 + ticks));
            }
        }
    }

    private static void servedInATick() {
        String two = "cell 0 0 9 4 0 0\ncell 0 0 9 4 0 0\ncell 0 0 1 5 0 1\n";
        Script.run(C, "what is left of the tick: nothing", made(3, two, 8, 0, 0), """
            shot 0
            tickOf 0 3 false = 2       # the thickest one first, 1 gram
            tickOf 0 1 false = 2       # then 7 grams
            tickOf 0 2 false = 3       # nothing was left of 8
            """);
        Script.run(C, "what is left of the tick: 1", made(3, two, 9, 0, 0), """
            shot 0
            tickOf 0 3 false = 2
            tickOf 0 1 false = 2
            tickOf 0 2 false = 2
            last 0 f = 5               # 2 and 7 in 3, 1 in 4
            """);
        Script.run(C, "a speed of 1", made(3, two, 1, 0, 0), """
            shot 0
            tickOf 0 0 false = 1
            tickOf 0 3 false = 3       # the cell 0 is full in 2
            tickOf 0 1 false = 4
            tickOf 0 2 false = 13
            last 0 f = 22
            last 0 n = 0
            """);
        Script.run(C, "what it lacks: 5 and 6 of 5 in a tick", made(3, "cell 0 0 5 3 0 0\ncell 0 0 6 3 0 1\n", 99, 0, 0), """
            shot 0
            last 0 f = 4
            partOf 0 g = 5
            partOf 1 g = 6
            last 0 g = 13
            act 0 f; act 0 t; act 0 b
            block 0 1 true
            shot 0
            last 0 f = 3
            """);
    }

    private static void fullAsTheTickBegins() {
        Script.run(C, "a cell is a source a tick behind that in which it is full",
            made(3, "cell 0 0 1 5 0 0\ncell 0 1 10 5 0 0\ncell 0 2 1 5 0 0\n", 99, 0, 0), """
            shot 0
            tickOf 0 0 false = 1
            tickOf 0 1 false = 2
            tickOf 0 2 false = 3       # 9 in tick 3, 1 in tick 4
            tickOf 0 3 false = 5
            last 0 f = 6
            """);
    }

    private static void freezesAtTheEnd() {
        Script.run(C, "it takes grams in the tick at whose end it freezes, and not behind it",
            made(3, "cell 0 0 2 1 0 0\ncell 0 0 3 1 0 1\n", 99, 0, 0), """
            freezing 0 1 = 1
            shot 0
            tickOf 0 1 true = 3
            partOf 0 g = 2
            partOf 1 g = 2
            last 0 n = 1
            last 0 f = 4
            """);
        Script.run(C, "of two ticks", made(9, "cell 0 0 3 2 1 0\ncell 0 0 4 2 1 1\ncell 0 0 5 2 1 2\n", 99, 0, 0), """
            setFlow 0 1 9
            freezing 0 1 = 3
            shot 0
            tickOf 0 1 true = 5
            partOf 0 g = 3
            partOf 1 g = 4             # a gram in each of the ticks 2 to 5
            partOf 2 g = 4
            isBad 1 = false
            isBad 2 = true
            """);
    }

    private static void sourcesThatFreeze() {
        Script.run(C, "a cell that freezes as it is full feeds none", made(3, "cell 0 0 2 1 0 0\ncell 0 1 2 9 0 0\n", 99, 0, 0), """
            shot 0
            tickOf 0 1 true = 3
            tickOf 0 2 false ! none
            last 0 n = 1
            last 0 t = 1               # all beside it are full, though frozen
            """);
        Script.run(C, "one that is full a tick ahead feeds for a tick", made(3, "cell 0 0 1 1 0 0\ncell 0 1 20 9 0 0\n", 99, 0, 0), """
            shot 0
            tickOf 0 1 true = 3
            tickOf 0 2 false = 3
            partOf 0 g = 18            # 17 grams and 1
            last 0 f = 4
            """);
        String slow = "setNozzle 0 1 h\n";
        Script.run(C, "the cell 0 feeds in tick 26, too", made(3, "cell 0 0 24 9 0 0\n" + slow, 1, 0, 0), """
            shot 0
            last 0 n = 0
            last 0 f = 27
            """);
        Script.run(C, "and not in 27", made(3, "cell 0 0 25 9 0 0\n" + slow, 1, 0, 0), """
            shot 0
            last 0 n = 1
            last 0 f = 27
            partOf 0 g = 24
            last 0 t = 1
            """);
    }

    private static void reachedFromOneThatIsNotFrozen() {
        for (int grams = 44; grams <= 50; grams += 2) {
            // The cell 2 takes all of the ticks 3 on; the cell 0 feeds the cell 3 up to tick 26.
            int tick = 3 + grams / 2;
            Script.run(C, "the cell 2 of " + grams + " grams",
                made(3, "cell 0 0 2 9 0 0\ncell 0 1 " + grams + " 9 0 0\ncell 0 0 1 1 0 0\njoin 0 1 3\n", 2, 0, 0),
                "shot 0\ntickOf 0 3 false = " + tick, "last 0 w = " + (tick <= 26 ? 1 : 0));
        }
    }

    private static void endOfFilling() {
        Script.run(C, "a tick in which nothing was given counts", made(3, "cell 0 0 5 3 0 0\n", 99, 0, 0), """
            shot 0
            last 0 f = 3
            last 0 g = 7
            """);
        Script.run(C, "nothing but the cell 0 is open", made(3, "cell 0 0 5 3 0 0\nblock 0 0 true\n", 99, 0, 0), """
            foresee 0 = -
            shot 0 ! none
            """);
        Script.run(C, "the longest filling", made(9, "19 * cell 0 0 50 1 0 0\n", 1, 0, 0), """
            setNozzle 0 0 h; setNozzle 0 1 h; setNozzle 0 2 h; setNozzle 0 3 h; setNozzle 0 4 h
            setNozzle 0 5 h; setNozzle 0 6 h; setNozzle 0 7 h; setNozzle 0 8 h; setNozzle 0 9 h
            setNozzle 0 10 h; setNozzle 0 11 h; setNozzle 0 12 h; setNozzle 0 13 h; setNozzle 0 14 h
            setNozzle 0 15 h; setNozzle 0 16 h; setNozzle 0 17 h; setNozzle 0 18 h; setNozzle 0 19 h
            shot 0 ! state             # 952 grams are above 500
            foresee 0 = -
            foresee 0 = -
            machine 1 2000 1 10 = 1
            setting 1 1 0 0
            purge 1 0 0
            feed 1 0 100
            tool 0 1 false false 0 = 1
            mount 0 1 0
            mount 1 0 0
            shot 1 = 958               # 953 and the wall of the cell 0
            last 1 f = 953
            last 1 n = 0
            tickOf 1 19 false = 903
            """);
    }

    private static void welds() {
        String ring = """
            cell 0 0 5 3 0 0
            cell 0 0 5 3 0 0
            cell 0 1 5 3 0 0
            cell 0 2 5 3 0 0
            """;
        Script.run(C, "cells that were reached from each other", made(3, ring, 99, 0, 0), "shot 0\nlast 0 w = 0\nlast 0 n = 0");
        Script.run(C, "two that met", made(3, ring + "join 0 3 4\n", 99, 0, 0), "shot 0\nlast 0 w = 1");
        Script.run(C, "joined in either order, and twice", made(3, ring + "join 0 4 3\njoin 0 3 4 = false\n", 99, 0, 0), "shot 0\nlast 0 w = 1");
        Script.run(C, "three pairs", made(3, ring + "join 0 3 4\njoin 0 1 2\njoin 0 1 4\n", 99, 0, 0), """
            shot 0
            last 0 w = 3               # 4 is reached from 1 as well as from 2: from 1, so 2 and 4 meet
            foresee 0 = w
            """);
        Script.run(C, "the cell 0 is in no weld", made(3, ring + "join 0 0 3\njoin 0 0 4\n", 99, 0, 0), """
            shot 0
            last 0 w = 2               # 3 and 4 are reached from 0: 1 and 3 meet, 2 and 4
            tickOf 0 3 false = 2
            """);
        Script.run(C, "one that is not full is in no weld", made(3, "cell 0 0 5 3 0 0\ncell 0 0 3 1 0 0\njoin 0 1 2\n", 99, 0, 0), """
            shot 0
            last 0 n = 1
            last 0 w = 0
            """);
        Script.run(C, "two that are full, with a gram less", made(3, "cell 0 0 5 3 0 0\ncell 0 0 2 1 0 0\njoin 0 1 2\n", 99, 0, 0), """
            shot 0
            last 0 n = 0
            last 0 w = 1
            """);
    }

    private static void traps() {
        String two = "cell 0 0 5 3 0 0\ncell 0 1 3 1 0 1\n";
        Script.run(C, "all beside it are full", made(3, two, 99, 0, 0), """
            shot 0
            last 0 n = 1
            last 0 t = 1
            foresee 0 = t
            """);
        Script.run(C, "the only one beside it is closed", made(3, two, 99, 0, 0), """
            block 0 0 true
            foresee 0 = s
            shot 0
            last 0 n = 1               # a closed cell is not counted
            last 0 t = 0
            last 0 g = 2
            """);
        Script.run(C, "one beside it is closed, one is full", made(3, two + "join 0 0 2\n", 99, 0, 0), """
            block 0 0 true
            foresee 0 = t
            shot 0
            last 0 t = 1
            """);
        Script.run(C, "one beside it is not full", made(3, "cell 0 0 3 1 0 0\ncell 0 0 3 1 0 1\njoin 0 1 2\n", 99, 0, 0), """
            foresee 0 = s
            shot 0
            last 0 n = 2
            last 0 t = 0
            act 0 f; act 0 t; act 0 b
            block 0 1 true
            foresee 0 = t              # the other one is not open
            shot 0
            last 0 n = 1
            last 0 t = 1
            """);
        Script.run(C, "a closed cell is no trap", made(3, "cell 0 0 3 1 0 0\ncell 0 0 2 1 0 1\n", 99, 0, 0), """
            block 0 0 true
            foresee 0 = -
            shot 0
            last 0 t = 0
            last 0 n = 0
            """);
        Script.run(C, "two traps", made(3, "cell 0 0 3 1 0 0\ncell 0 0 3 1 0 1\n", 99, 0, 0), """
            shot 0
            last 0 n = 2
            last 0 t = 2
            last 0 w = 0
            """);
    }

    private static void holding() {
        String thin = "cell 0 0 5 3 0 0\n";
        String thick = "cell 0 0 5 9 0 0\n";
        int[][] due = {{0, 1000}, {1, 990}, {7, 930}, {8, 920}, {9, 920}, {60, 920}};
        for (int[] d : due) {
            Script.run(C, d[0] + " ticks of holding, a cell that freezes in 11", made(3, thin, 99, 10, d[0]),
                "shot 0\ntickOf 0 1 true = 11\nlast 0 f = 3\npartOf 0 s = " + d[1]);
        }
        int[][] dueThick = {{22, 780}, {23, 770}, {24, 770}, {60, 770}};
        for (int[] d : dueThick) {
            Script.run(C, d[0] + " ticks of holding, the cell 0 freezes in 26", made(3, thick, 99, 10, d[0]),
                "shot 0\ntickOf 0 0 true = 26\nlast 0 f = 3\npartOf 0 s = " + d[1]);
        }
        Script.run(C, "a pressure of 0 and of 99", made(3, thin, 99, 0, 5), "shot 0\npartOf 0 s = 1000\n" + Lines.OUT,
            "setting 0 99 99 5\nshot 0\npartOf 1 s = 505");
    }

    private static void pressedOnlyWithTheCellZero() {
        Script.run(C, "a gate that freezes in 6 parts what is behind it",
            made(3, "cell 0 0 2 2 0 -1\ncell 0 1 5 9 0 0\ncell 0 0 5 9 0 1\n", 99, 10, 10), """
            shot 0
            last 0 f = 4
            tickOf 0 1 true = 6
            partOf 0 s = 980           # the ticks 5 and 6
            partOf 1 s = 900
            """);
        Script.run(C, "another way leads round it",
            made(3, "cell 0 0 2 2 0 -1\ncell 0 1 5 9 0 0\ncell 0 0 5 9 0 1\njoin 0 3 2\n", 99, 10, 10), """
            shot 0
            partOf 0 s = 900
            partOf 1 s = 900
            """);
        Script.run(C, "a cell that is not full is not pressed, and leads to none",
            made(3, "cell 0 0 5 9 0 0\ncell 0 0 3 1 0 1\n", 99, 10, 10), """
            shot 0
            partOf 0 s = 900
            partOf 1 s = 1000
            isBad 1 = true
            """);
        Script.run(C, "a chain that comes back to a lower number",
            made(3, "cell 0 0 1 9 0 -1\ncell 0 1 1 9 0 -1\ncell 0 0 5 9 0 0\ncell 0 2 1 9 0 1\n", 99, 10, 10), """
            shot 0
            partOf 0 s = 900
            partOf 1 s = 900
            """);
        // The cell 1 is never full: all that hang on it are reached from the last one down.
        StringBuilder down = new StringBuilder("cell 0 0 50 1 0 -1\n");
        for (int cell = 2; cell < 20; cell++) {
            down.append("cell 0 1 1 9 0 ").append(cell == 2 ? 0 : -1).append('\n');
        }
        down.append("join 0 0 19\n");
        for (int cell = 19; cell > 2; cell--) {
            down.append("join 0 ").append(cell).append(' ').append(cell - 1).append('\n');
        }
        Script.run(C, "a chain of 18 cells of falling numbers", made(3, down.toString(), 99, 10, 4), """
            shot 0
            tickOf 0 19 false = 2
            tickOf 0 2 false = 19
            last 0 n = 1
            last 0 f = 20
            partOf 0 s = 960
            """);
    }

    private static void shrinking() {
        String thin = Lines.BEGUN.replace("3 10 50", "3 1 50") + "tool 0 1 false false 9999\ncell 0 0 5 3 0 0\n" + Lines.MOUNTED;
        int[][] due = {{99, 1, 1}, {50, 2, 0}, {51, 2, 0}, {33, 3, 1}, {49, 2, 2}, {99, 60, 0}};
        for (int[] d : due) {
            Script.run(C, "100 less " + d[0] + " times " + d[1], thin, "setting 0 20 " + d[0] + " " + d[1], "shot 0\npartOf 0 s = " + d[2] + "\npartOf 0 w = 0");
        }
        Script.run(C, "the sum divided by two and by three, cut",
            made(3, "cell 0 0 5 3 0 0\ncell 0 0 1 1 0 0\ncell 0 0 5 3 0 1\ncell 0 0 1 1 0 1\ncell 0 0 1 1 0 1\n", 99, 1, 1), """
            shot 0
            partOf 0 s = 999           # 999 and 1000
            partOf 1 s = 999           # 999, 1000 and 1000
            partOf 0 w = 1
            partOf 1 w = 1
            """);
        Script.run(C, "two of three, cut", made(3, "cell 0 0 5 3 0 0\ncell 0 0 5 3 0 0\ncell 0 0 1 1 0 0\n", 99, 1, 1), """
            shot 0
            partOf 0 s = 999           # 999, 999 and 1000
            partOf 0 w = 1
            """);
        Script.run(C, "a warp of what is left at 0", thin.replace("cell 0 0 5 3 0 0\n", "cell 0 0 5 3 0 0\ncell 0 0 1 1 0 0\n"), """
            setting 0 20 99 60
            shot 0
            partOf 0 s = 50            # 0 and 100
            partOf 0 w = 100
            """);
        Script.run(C, "the greatest shrinking", Lines.BEGUN.replace("3 10 50", "3 50 50"), """
            tool 0 1 false false 9999
            cell 0 0 5 3 0 0
            """, Lines.MOUNTED, "setting 0 20 0 60\nshot 0\npartOf 0 s = 5000\npartOf 0 w = 0");
    }

    private static void length() {
        int[][] due = {{0, 31}, {22, 31}, {23, 31}, {24, 32}, {60, 68}};
        for (int[] d : due) {
            Script.run(C, d[0] + " ticks of holding behind 3, and 26 of freezing", made(3, "cell 0 0 5 3 0 0\n", 99, 0, d[0]),
                "shot 0 = " + d[1] + "\nlast 0 l = " + d[1]);
        }
        Script.run(C, "the greatest wall of all cells with grams", made(3, "cell 0 0 3 1 0 0\ncell 0 1 5 9 0 0\ncell 0 0 5 6 0 1\n", 99, 0, 0), """
            tool 0 1 false false 0 = 1
            shot 0 = 44                # the wall of 9 was not reached, that of 6 freezes in 38
            tickOf 0 2 false ! none
            tickOf 0 3 true = 38
            act 0 f; act 0 t; act 0 b
            block 0 1 true
            shot 0 = 31                # nor is that of 6 now
            """);
        Script.run(C, "a cell of a gram has grams", made(3, "cell 0 0 1 9 0 0\n", 99, 0, 0), """
            shot 0 = 92                # the wall of 9 freezes in 83
            tickOf 0 1 true = 83
            """);
        Script.run(C, "a cell that is not full has grams", made(3, "cell 0 0 50 7 0 0\nsetNozzle 0 0 -\n", 1, 0, 0), """
            freezing 0 1 = 49
            shot 0 = 59                # reached in 3, frozen in 52
            last 0 n = 1
            """);
    }

    private static void cavities() {
        Script.run(C, "parts by rising cavities, sprues are waste", made(3, """
            cell 0 0 7 9 0 3
            cell 0 0 6 9 0 1
            cell 0 0 5 9 0 -1
            cell 0 0 4 9 0 1
            cell 0 0 3 9 0 0
            """, 99, 0, 0), """
            shot 0
            parts = 3
            partOf 0 c = 0
            partOf 0 g = 3
            partOf 1 c = 1
            partOf 1 g = 10
            partOf 2 c = 3
            partOf 2 g = 7
            waste 0 = 27               # 20, 2 and 5
            lotIn 2 0 = 27
            act 0 f; act 0 t; act 0 b
            block 0 1 true
            shot 0
            parts = 5
            partOf 3 c = 0
            partOf 4 c = 3
            waste 0 = 34
            lotIn 4 0 = 17
            isTrue = true
            """);
    }

    private static void theRestOfTheFirstLot() {
        String lots = Lines.TWO + "3 * lot 0 100 0\n";
        Script.run(C, "1, 33, 33 and 33 hundredths of 12", lots, """
            feed 0 0 1; feed 0 1 33; feed 0 2 33; feed 0 3 33
            shot 0
            lotIn 0 0 = 3
            lotIn 0 1 = 3
            lotIn 0 2 = 3
            lotIn 0 3 = 3
            """);
        Script.run(C, "33, 33 and 34 hundredths of 12", lots, """
            feed 0 0 33; feed 0 1 33; feed 0 2 34
            shot 0
            lotIn 0 0 = 5
            lotIn 0 1 = 3
            lotIn 0 2 = 4
            """);
        Script.run(C, "8 and 9 hundredths of 12", lots, """
            feed 0 0 83; feed 0 1 8; feed 0 2 9
            shot 0
            lotIn 0 0 = 11
            lotIn 0 1 = 0
            lotIn 0 2 = 1
            grams 1 = 100
            grams 2 = 99
            """);
        Script.run(C, "the first as they were put there, not by numbers", lots, """
            feed 0 0 0; feed 0 3 33; feed 0 0 33; feed 0 1 34
            shot 0
            lotIn 0 3 = 5
            lotIn 0 0 = 3
            lotIn 0 1 = 4
            act 0 f; act 0 t; act 0 b
            feed 0 3 32; feed 0 3 33   # a share that is changed keeps the place
            shot 0
            lotIn 2 3 = 5
            act 0 f; act 0 t; act 0 b
            feed 0 3 0; feed 0 3 33    # one that is taken out comes last
            shot 0
            lotIn 4 3 = 3
            lotIn 4 0 = 5
            isTrue = true
            """);
    }

    private static void gramsOfAShot() {
        Script.run(C, "whole, even if it is short", Lines.BAD, """
            shot 0
            grams 0 = 99923            # 20 and 57
            last 0 g = 9
            waste 0 = 70
            partOf 0 g = 5
            partOf 1 g = 2
            lotIn 0 0 = 57
            isTrue = true
            """);
        Script.run(C, "the grams of open cells alone", Lines.BAD, """
            block 0 1 true
            shot 0
            grams 0 = 99973
            waste 0 = 22
            lotIn 0 0 = 7
            isTrue = true
            """);
    }

    private static void generations() {
        StringBuilder six = new StringBuilder(Lines.TWO.replace("3 10 50 2 300", "3 10 100 5 300"));
        for (int lot = 0; lot < 6; lot++) {
            six.append("purge 0 ").append(lot).append(" 1\npurge 0 0 1\npurge 0 0 0 = 50\ngrind 0 = ").append(lot + 1)
                .append("\ngeneration ").append(lot + 1).append(" = ").append(lot + 1).append('\n');
        }
        Script.run(C, "a generation of 5 and of 6", six.toString(), """
            feed 0 0 99
            feed 0 6 1
            shot 0 ! unsupported
            feed 0 6 0
            feed 0 5 1
            shot 0 = 31
            """);
    }

    private static void wasteOfGenerations() {
        Script.run(C, "the greatest that gave to it since it was ground last", Lines.BAD, Lines.PRESS, """
            grind 0 = 1
            generation 1 = 1
            feed 0 0 99; feed 0 1 1
            shot 0
            lotIn 2 1 = 0              # a hundredth of 57 is none
            act 0 f; act 0 t; act 0 b
            grind 0 = 2
            generation 2 = 1
            feed 0 0 98; feed 0 1 2
            shot 0
            lotIn 4 1 = 1
            act 0 f; act 0 t; act 0 b
            grind 0 = 3
            generation 3 = 2
            feed 0 1 0; feed 0 0 100
            shot 0
            act 0 f; act 0 t; act 0 b
            grind 0 = 4
            generation 4 = 1           # waste was ground
            purge 0 3 0
            purge 0 0 1
            purge 0 0 1
            grind 0 = 5
            generation 5 = 3           # the greatest, not the last one
            water 5 = 0
            """);
        String regrind = """
            grind 0 = 1
            generation 1 = 1
            """;
        Script.run(C, "the first lot of the hopper has the greatest", Lines.BAD, Lines.PRESS, regrind, """
            purge 0 0 0
            feed 0 1 50; feed 0 0 50
            shot 0
            lotIn 2 1 = 29
            grind 0 = 2
            generation 2 = 2
            """);
        Script.run(C, "a part has a greater one than the waste", Lines.BAD, Lines.PRESS, regrind, """
            purge 0 0 0
            feed 0 0 50; feed 0 1 50
            shot 0
            grind 0 = 2
            generation 2 = 2
            purge 0 0 1 ! state
            act 0 f; act 0 t; act 0 b
            stateOf 3 = o
            purge 0 0 1
            purge 0 0 0
            grind 0 = 3
            generation 3 = 2
            stateOf 3 = g
            purge 0 0 1
            purge 0 0 0
            grind 0 = 4
            generation 4 = 1
            """);
        Script.run(C, "the waste has a greater one than a part", Lines.BAD, Lines.PRESS, regrind, """
            shot 0
            act 0 f; act 0 t; act 0 b
            purge 0 1 0
            grind 0 = 2
            stateOf 3 = g
            generation 2 = 2
            """);
    }

    private static void slides() {
        Script.run(C, "with slides: five acts between two shots", Lines.SLIDES, "5 * shot 0; " + Lines.OUT_WITH_SLIDES, "parts = 10");
        Script.run(C, "without: three", Lines.TWO, "5 * " + Lines.PRESS, "parts = 10");
    }

    /** An object is used for 512 calls: the last of them is answered like the first. */
    private static void calls() {
        Script.run(C, "512 calls", "machine 1 1 99 10\n511 * setting 0 99 99 60 = 1..");
        Script.run(C, "512 calls, shots among them", Lines.TWO.replace("lot 0 100000 0\n", "2 * lot 0 100000 0\n")
            .replace("tool 1", "tool 0 1 false false 0\ntool 1").replace("cell 0", "cell 1").replace("mount 0 0", "mount 0 1"), """
            parts = 0
            """, "50 * " + Lines.PRESS, "mount 0 0 0\nserve 1 = 50\nmount 0 1 0", "50 * " + Lines.PRESS, """
            parts = 200
            shot 0 ! state
            80 * pass 100
            pass 100 = 8100
            isTrue = true
            water 0 = 400
            """);
    }
}
