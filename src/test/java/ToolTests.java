/** Promises 10 to 18: tools. */
public final class ToolTests {
    private static final Check C = new Check("tools");

    public static void main(String[] args) {
        tool();
        cell();
        cellsOfAUsedTool();
        join();
        block();
        setFlow();
        setNozzle();
        setNominal();
        freezing();
        serve();
        C.end();
    }

    private static void tool() {
        Gatemark x = new Gatemark();
        C.fails("skill -1", Works.ARGUMENT, () -> x.tool(-1, 1, false, false, 0));
        C.fails("skill 4", Works.ARGUMENT, () -> x.tool(4, 1, false, false, 0));
        C.fails("force 0", Works.ARGUMENT, () -> x.tool(0, 0, false, false, 0));
        C.fails("force 1000", Works.ARGUMENT, () -> x.tool(0, 1000, false, false, 0));
        C.fails("warp -1", Works.ARGUMENT, () -> x.tool(0, 1, false, false, -1));
        C.fails("warp 10000", Works.ARGUMENT, () -> x.tool(0, 1, false, false, 10000));
        C.is("the least tool", x.tool(0, 1, false, false, 0), 0);
        C.is("the greatest tool", x.tool(3, 999, true, true, 9999), 1);
        C.is("its cell 0 freezes as a wall of 5 does", x.freezing(1, 0), 25);
        C.fails("it has no other cell", Works.INDEX, () -> x.freezing(1, 1));
        C.fails("and no cavity", Works.INDEX, () -> x.points(1, 0));
        for (int i = 2; i < 6; i++) {
            C.is("tool " + i, x.tool(0, 1, false, false, 0), i);
        }
        C.fails("a tool too many", Works.STATE, () -> x.tool(0, 1, false, false, 0));
        C.fails("a wrong tool too many", Works.ARGUMENT, () -> x.tool(0, 0, false, false, 0));
    }

    private static void cell() {
        Gatemark x = new Gatemark();
        C.fails("no tool", Works.INDEX, () -> x.cell(0, 0, 0, 0, 0, 0));
        x.tool(0, 1, false, false, 0);
        C.fails("on cell 1", Works.INDEX, () -> x.cell(0, 1, 1, 1, 0, 0));
        C.fails("on cell -1", Works.INDEX, () -> x.cell(0, -1, 0, 1, 0, 0));
        C.fails("0 grams", Works.ARGUMENT, () -> x.cell(0, 0, 0, 1, 0, 0));
        C.fails("51 grams", Works.ARGUMENT, () -> x.cell(0, 0, 51, 1, 0, 0));
        C.fails("wall 0", Works.ARGUMENT, () -> x.cell(0, 0, 1, 0, 0, 0));
        C.fails("wall 10", Works.ARGUMENT, () -> x.cell(0, 0, 1, 10, 0, 0));
        C.fails("circuit -1", Works.ARGUMENT, () -> x.cell(0, 0, 1, 1, -1, 0));
        C.fails("circuit 4", Works.ARGUMENT, () -> x.cell(0, 0, 1, 1, 4, 0));
        C.fails("cavity -2", Works.ARGUMENT, () -> x.cell(0, 0, 1, 1, 0, -2));
        C.fails("cavity 4", Works.ARGUMENT, () -> x.cell(0, 0, 1, 1, 0, 4));
        C.is("the least cell", x.cell(0, 0, 1, 1, 0, -1), 1);
        C.is("the greatest cell", x.cell(0, 1, 50, 9, 3, 3), 2);
        for (int i = 3; i < 20; i++) {
            C.is("cell " + i, x.cell(0, i - 1, 1, 1, 0, 0), i);
        }
        C.fails("a cell too many", Works.STATE, () -> x.cell(0, 0, 1, 1, 0, 0));
        C.fails("a wrong cell too many", Works.ARGUMENT, () -> x.cell(0, 0, 0, 1, 0, 0));
        C.fails("a cell too many on none", Works.INDEX, () -> x.cell(0, 20, 1, 1, 0, 0));
    }

    private static void cellsOfAUsedTool() {
        Gatemark x = Works.twoCavities(false);
        C.is("before a shot", x.cell(0, 0, 1, 1, 0, -1), 3);
        C.is("a join before a shot", x.join(0, 1, 2), true);
        for (int i = 4; i < 20; i++) {
            x.cell(0, 0, 1, 1, 0, -1);
        }
        Works.press(x, 0);
        C.fails("a used tool with 20 cells", Works.UNSUPPORTED, () -> x.cell(0, 0, 1, 1, 0, -1));
        C.fails("a wrong cell", Works.ARGUMENT, () -> x.cell(0, 0, 1, 0, 0, -1));
        C.fails("a join", Works.UNSUPPORTED, () -> x.join(0, 1, 3));
        C.fails("a join that is there", Works.UNSUPPORTED, () -> x.join(0, 0, 1));
        C.fails("a join with itself", Works.ARGUMENT, () -> x.join(0, 1, 1));
        x.tool(0, 1, false, false, 0);
        x.mount(0, 1, 0);
        x.serve(0);
        C.fails("a served tool made a shot, too", Works.UNSUPPORTED, () -> x.join(0, 1, 3));
    }

    private static void join() {
        Gatemark x = new Gatemark();
        C.fails("no tool", Works.INDEX, () -> x.join(0, 0, 0));
        x.tool(0, 1, false, false, 0);
        x.cell(0, 0, 1, 1, 0, 0);
        x.cell(0, 0, 1, 1, 0, 0);
        C.is("hanging cells are beside each other", x.join(0, 0, 1), false);
        C.is("either way", x.join(0, 1, 0), false);
        C.is("others are not", x.join(0, 2, 1), true);
        C.is("but then", x.join(0, 1, 2), false);
        C.fails("both the same", Works.ARGUMENT, () -> x.join(0, 2, 2));
        C.fails("no such cell", Works.INDEX, () -> x.join(0, 3, 3));
        C.fails("no such other cell", Works.INDEX, () -> x.join(0, 0, 3));
        C.fails("cell -1", Works.INDEX, () -> x.join(0, -1, 0));
        C.fails("other cell -1", Works.INDEX, () -> x.join(0, 0, -1));
    }

    private static void block() {
        Gatemark x = Works.twoCavities(false);
        C.is("at first it is open", x.block(0, 0, true), false);
        C.is("then not", x.block(0, 0, true), true);
        C.is("its cell takes nothing", x.shot(0), 31);
        C.is("one part", x.parts(), 1);
        C.is("of the other cavity", x.partOf(0, 'c'), 1);
        C.is("7 grams were taken", x.lotIn(0, 0), 7);
        C.fails("its cell was not reached", Works.NONE, () -> x.tickOf(0, 1, false));
        C.is("it is opened", x.block(0, 0, false), true);
        C.is("it is open", x.block(0, 0, false), false);
        C.fails("no such tool", Works.INDEX, () -> x.block(1, 0, true));
        for (int cavity : new int[] {-1, 2, 3, 4, Integer.MIN_VALUE}) {
            C.fails("cavity " + cavity, Works.INDEX, () -> x.block(0, cavity, true));
        }
    }

    private static void setFlow() {
        Gatemark x = Works.twoCavities(false);
        C.is("5 at first", x.setFlow(0, 3, 9), 5);
        C.is("9 then", x.setFlow(0, 3, 0), 9);
        C.is("another circuit", x.setFlow(0, 0, 0), 5);
        C.is("freezing", x.freezing(0, 1), 18);
        C.fails("no such tool", Works.INDEX, () -> x.setFlow(1, 4, 0));
        C.fails("circuit -1", Works.ARGUMENT, () -> x.setFlow(0, -1, 0));
        C.fails("circuit 4", Works.ARGUMENT, () -> x.setFlow(0, 4, 0));
        C.fails("flow -1", Works.ARGUMENT, () -> x.setFlow(0, 0, -1));
        C.fails("flow 10", Works.ARGUMENT, () -> x.setFlow(0, 0, 10));
        C.is("nothing changed", x.setFlow(0, 0, 5), 0);
    }

    private static void setNozzle() {
        Gatemark x = Works.twoCavities(false);
        C.is("none at first", x.setNozzle(0, 0, 'h'), '-');
        C.is("it heats", x.setNozzle(0, 0, 'h'), 'h');
        C.is("without it the length is 31", x.shot(0), 11 + 5);
        C.fails("it did not freeze", Works.NONE, () -> x.tickOf(0, 0, true));
        C.is("it fails", x.setNozzle(0, 0, 'f'), 'h');
        C.is("the last shot stays", x.last(0, 'l'), 16);
        C.is("it is taken away", x.setNozzle(0, 0, '-'), 'f');
        C.is("none", x.setNozzle(0, 0, 'f'), '-');
        x.act(0, 'f');
        x.act(0, 't');
        x.act(0, 'b');
        C.is("a failed one is as none", x.shot(0), 31);
        C.fails("no such tool", Works.INDEX, () -> x.setNozzle(1, 0, 'h'));
        C.fails("no such cell", Works.INDEX, () -> x.setNozzle(0, 3, 'x'));
        C.fails("cell -1", Works.INDEX, () -> x.setNozzle(0, -1, 'h'));
        C.fails("no such way", Works.ARGUMENT, () -> x.setNozzle(0, 0, 'H'));
        C.is("freezing, nozzles aside", x.freezing(0, 0), 25);
    }

    private static void setNominal() {
        Gatemark x = Works.twoCavities(false);
        C.is("100000 at first", x.setNominal(0, 0, 90000, 0), 100000);
        C.is("90000 then", x.setNominal(0, 0, 100000, 9999), 90000);
        C.is("another cavity", x.setNominal(0, 1, 99050, 0), 100000);
        C.fails("no such tool", Works.INDEX, () -> x.setNominal(1, 0, 0, 0));
        C.fails("no such cavity", Works.INDEX, () -> x.setNominal(0, 2, 0, 0));
        C.fails("cavity -1", Works.INDEX, () -> x.setNominal(0, -1, 100000, 0));
        C.fails("size 89999", Works.ARGUMENT, () -> x.setNominal(0, 0, 89999, 0));
        C.fails("size 100001", Works.ARGUMENT, () -> x.setNominal(0, 0, 100001, 0));
        C.fails("tolerance -1", Works.ARGUMENT, () -> x.setNominal(0, 0, 100000, -1));
        C.fails("tolerance 10000", Works.ARGUMENT, () -> x.setNominal(0, 0, 100000, 10000));
        Works.press(x, 0);
        x.pass(24);
        C.is("just the size", x.measure(1), true);
    }

    private static void freezing() {
        Gatemark x = new Gatemark();
        x.tool(0, 1, false, false, 0);
        x.cell(0, 0, 1, 1, 1, 0);
        x.cell(0, 0, 1, 9, 2, 0);
        x.cell(0, 0, 1, 7, 3, 0);
        C.is("wall 1, flow 5", x.freezing(0, 1), 1);
        x.setFlow(0, 1, 9);
        C.is("wall 1, flow 9: 10 by 14, rounded up", x.freezing(0, 1), 1);
        x.setFlow(0, 2, 0);
        C.is("wall 9, flow 0", x.freezing(0, 2), 162);
        x.setFlow(0, 3, 8);
        C.is("wall 7, flow 8: 490 by 13, rounded up", x.freezing(0, 3), 38);
        C.fails("no such tool", Works.INDEX, () -> x.freezing(1, 0));
        C.fails("no such cell", Works.INDEX, () -> x.freezing(0, 4));
        C.fails("cell -1", Works.INDEX, () -> x.freezing(0, -1));
    }

    private static void serve() {
        Gatemark x = Works.twoCavities(false);
        C.fails("on a machine", Works.STATE, () -> x.serve(0));
        x.tool(0, 1, false, false, 0);
        C.is("made none", x.serve(1), 0);
        for (int i = 0; i < 50; i++) {
            Works.press(x, 0);
        }
        C.fails("due for a service", Works.STATE, () -> x.shot(0));
        x.mount(0, 1, 0);
        C.is("made 50", x.serve(0), 50);
        C.is("counts anew", x.serve(0), 0);
        x.mount(0, 0, 0);
        C.is("and makes shots again", x.shot(0), 31);
        C.fails("no such tool", Works.INDEX, () -> x.serve(2));
        C.fails("tool -1", Works.INDEX, () -> x.serve(-1));
    }
}
