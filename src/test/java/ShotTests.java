/** Promises 27 to 32: shots and taking out. */
public final class ShotTests {
    private static final Check C = new Check("shots");

    public static void main(String[] args) {
        shot();
        shotMisses();
        shotRefusesTheHopper();
        shotRefusesTheRest();
        sharesAreCut();
        atMost200Parts();
        fillingByWalls();
        reachedFromTheLowest();
        thickResinAndShort();
        holdingOnlyWhatHangsTogether();
        foresee();
        last();
        tickOf();
        act();
        breakRobot();
        C.end();
    }

    private static void shot() {
        Gatemark x = Works.twoCavities(false);
        C.is("ticks", x.shot(0), 31);
        C.is("parts", x.parts(), 2);
        C.is("12 grams were taken", x.grams(0), 100000 - 20 - 12);
        C.is("the sprue is waste", x.waste(0), 22);
        C.is("grams of a part", x.partOf(1, 'g'), 5);
        C.is("its shrinking", x.partOf(0, 's'), 950);
        C.is("in the mould", x.stateOf(0), 'm');
    }

    private static void shotMisses() {
        Gatemark x = Works.begun();
        C.fails("no such machine", Works.INDEX, () -> x.shot(1));
        C.fails("machine -1", Works.INDEX, () -> x.shot(-1));
        C.fails("nothing there", Works.NONE, () -> x.shot(0));
        x.tool(0, 1, false, false, 0);
        x.mount(0, 0, 0);
        x.purge(0, 0, 0);
        C.fails("no setting", Works.NONE, () -> x.shot(0));
        x.setting(0, 1, 0, 0);
        C.fails("no cavity, and nothing in the hopper", Works.NONE, () -> x.shot(0));
        x.cell(0, 0, 1, 1, 0, 2);
        C.fails("nothing in the hopper", Works.UNSUPPORTED, () -> x.shot(0));
        x.block(0, 2, true);
        C.fails("no open cavity", Works.NONE, () -> x.shot(0));
        x.block(0, 2, false);
        x.feed(0, 0, 100);
        x.shot(0);
        Gatemark y = Works.begun();
        y.tool(0, 1, false, false, 0);
        y.cell(0, 0, 1, 1, 0, 2);
        y.mount(0, 0, 0);
        y.setting(0, 1, 0, 0);
        C.fails("no resin", Works.NONE, () -> y.shot(0));
        Gatemark z = Works.begun();
        z.setting(0, 1, 0, 0);
        z.purge(0, 0, 0);
        z.feed(0, 0, 100);
        C.fails("no tool", Works.NONE, () -> z.shot(0));
    }

    private static void shotRefusesTheHopper() {
        Gatemark x = Works.badCavity();
        x.feed(0, 0, 99);
        C.fails("the sum is 99", Works.UNSUPPORTED, () -> x.shot(0));
        x.lot(0, 1000, 301);
        x.feed(0, 1, 2);
        C.fails("the sum is 101", Works.UNSUPPORTED, () -> x.shot(0));
        x.feed(0, 1, 1);
        C.fails("a lot has too much water", Works.UNSUPPORTED, () -> x.shot(0));
        x.breakRobot(0, true);
        C.fails("and the robot is broken", Works.UNSUPPORTED, () -> x.shot(0));
        x.breakRobot(0, false);
        x.dry(1, 1);
        Works.press(x, 0);
        x.feed(0, 1, 0);
        x.feed(0, 0, 49);
        x.grind(0);
        x.feed(0, 2, 51);
        C.fails("more regrind than 50", Works.UNSUPPORTED, () -> x.shot(0));
        x.feed(0, 2, 50);
        x.feed(0, 0, 50);
        Works.press(x, 0);
        C.is("a second lot of regrind", x.generation(x.grind(0)), 2);
        x.feed(0, 2, 25);
        x.feed(0, 3, 26);
        x.feed(0, 0, 49);
        C.fails("together more regrind than 50", Works.UNSUPPORTED, () -> x.shot(0));
        x.feed(0, 3, 25);
        x.feed(0, 0, 50);
        Works.press(x, 0);
        C.is("a third lot of regrind", x.generation(x.grind(0)), 3);
        x.feed(0, 2, 0);
        x.feed(0, 3, 0);
        x.feed(0, 4, 1);
        x.feed(0, 0, 99);
        C.fails("a generation above the most", Works.UNSUPPORTED, () -> x.shot(0));
        C.is("grams balance", x.isTrue(), true);
    }

    private static void shotRefusesTheRest() {
        Gatemark x = Works.twoCavities(true);
        x.lot(0, 5, 0);
        x.feed(0, 0, 50);
        x.feed(0, 1, 50);
        C.fails("6 grams of a lot of 5", Works.STATE, () -> x.shot(0));
        x.feed(0, 0, 51);
        x.feed(0, 1, 49);
        C.is("5 are enough", x.shot(0), 31);
        x.feed(0, 0, 100);
        x.feed(0, 1, 0);
        C.fails("a part is in the mould", Works.STATE, () -> x.shot(0));
        for (char what : "oftb".toCharArray()) {
            x.act(0, what);
            C.fails("behind " + what, Works.STATE, () -> x.shot(0));
        }
        x.act(0, 'i');
        x.breakRobot(0, true);
        C.fails("the robot is broken", Works.STATE, () -> x.shot(0));
        x.breakRobot(0, false);
        C.is("all is right", x.shot(0), 31);
        Gatemark y = Works.begun();
        y.machine(200, 12, 20, 40);
        y.machine(200, 11, 20, 40);
        y.tool(1, 100, false, false, 400);
        y.cell(0, 0, 10, 3, 0, 0);
        for (int m = 1; m < 3; m++) {
            y.setting(m, 20, 0, 0);
            y.purge(m, 0, 0);
            y.feed(m, 0, 100);
        }
        y.mount(2, 0, 0);
        C.fails("12 grams are above 11", Works.STATE, () -> y.shot(2));
        y.tool(0, 1, false, false, 0);
        y.mount(2, 1, 0);
        y.mount(1, 0, 0);
        C.is("12 grams", y.shot(1), 31);
    }

    private static void sharesAreCut() {
        Gatemark x = Works.twoCavities(false);
        x.lot(0, 100, 0);
        x.lot(0, 100, 0);
        x.feed(0, 0, 0);
        x.feed(0, 1, 1);
        x.feed(0, 2, 50);
        x.feed(0, 0, 49);
        x.shot(0);
        C.is("the rest of the first lot: 0 and 1", x.lotIn(0, 1), 1);
        C.is("50 hundredths of 12", x.lotIn(0, 2), 6);
        C.is("49 hundredths of 12, cut", x.lotIn(1, 0), 5);
        C.is("grams balance", x.isTrue(), true);
    }

    private static void atMost200Parts() {
        Gatemark x = Works.begun();
        x.tool(0, 1, false, false, 9999);
        for (int c = 0; c < 4; c++) {
            x.cell(0, 0, 1, 9, 0, c);
        }
        x.tool(0, 1, false, false, 9999);
        x.cell(1, 0, 1, 9, 0, 3);
        x.setting(0, 20, 0, 0);
        x.purge(0, 0, 0);
        x.feed(0, 0, 100);
        x.mount(0, 1, 0);
        Works.press(x, 0);
        x.mount(0, 0, 0);
        for (int i = 0; i < 49; i++) {
            Works.press(x, 0);
        }
        C.is("parts", x.parts(), 197);
        C.fails("201 parts", Works.STATE, () -> x.shot(0));
        x.block(0, 1, true);
        Works.press(x, 0);
        C.is("200 parts", x.parts(), 200);
        x.mount(0, 1, 0);
        C.fails("201 parts still", Works.STATE, () -> x.shot(0));
        C.is("isTrue", x.isTrue(), true);
    }

    private static void fillingByWalls() {
        Gatemark x = Works.begun();
        x.tool(0, 1, false, false, 9999);
        x.cell(0, 0, 9, 2, 0, 0);
        x.cell(0, 0, 9, 4, 0, 0);
        x.cell(0, 0, 9, 4, 0, 0);
        Works.mounted(x);
        x.setting(0, 9, 0, 0);
        x.shot(0);
        C.is("a cell with grams freezes", x.tickOf(0, 1, true), 8);
        C.is("the thicker one, of the lower number", x.tickOf(0, 2, false), 2);
        C.is("the other one with what is left", x.tickOf(0, 3, false), 2);
        C.is("the thinner one later", x.tickOf(0, 1, false), 4);
        C.is("7 and 2 in tick 2, 2 and 7 in 3, 3 in 4, 5, 6: 7 is the last", x.last(0, 'f'), 7);
        C.is("all are full", x.last(0, 'n'), 0);
    }

    private static void reachedFromTheLowest() {
        Gatemark x = Works.begun();
        x.tool(0, 1, false, false, 9999);
        x.cell(0, 0, 5, 3, 0, 0);
        x.cell(0, 0, 5, 3, 0, 0);
        x.cell(0, 2, 5, 3, 0, 0);
        x.join(0, 1, 3);
        Works.mounted(x);
        x.shot(0);
        C.is("it was reached behind both", x.tickOf(0, 3, false), 3);
        C.is("from 1, so it is welded with 2", x.last(0, 'w'), 1);
        C.is("all are full", x.last(0, 'n'), 0);
        Gatemark y = Works.begun();
        y.tool(0, 1, false, false, 9999);
        y.cell(0, 0, 5, 3, 0, 0);
        y.cell(0, 1, 5, 3, 0, 0);
        y.join(0, 0, 2);
        Works.mounted(y);
        y.shot(0);
        C.is("1 and 2 met", y.last(0, 'w'), 1);
        C.is("the cell 0 welds with none", y.foresee(0), 'w');
    }

    private static void thickResinAndShort() {
        Gatemark x = new Gatemark();
        x.resin(9, 10, 0, 0, 0, false);
        x.lot(0, 1000, 0);
        x.machine(200, 500, 20, 40);
        x.setter(1);
        x.tool(0, 1, false, false, 9999);
        x.cell(0, 0, 9, 2, 0, 0);
        x.cell(0, 1, 9, 1, 0, 0);
        Works.mounted(x);
        x.shot(0);
        C.is("at least 1 in a tick: 5 ticks until it is frozen", x.last(0, 'g'), 2 + 5);
        C.is("it freezes 4 ticks later", x.tickOf(0, 1, true), 6);
        C.is("filling ends with 7", x.last(0, 'f'), 7);
        C.is("two are not full", x.last(0, 'n'), 2);
        C.is("the first one is no trap, as the second is not full", x.last(0, 't'), 0);
        C.fails("the second was not reached", Works.NONE, () -> x.tickOf(0, 2, false));
        C.fails("and did not freeze", Works.NONE, () -> x.tickOf(0, 2, true));
        C.is("5 grams are in the part", x.partOf(0, 'g'), 5);
        C.is("the rest is waste", x.waste(0), 20 + 2 + 13);
        C.is("short", x.foresee(0), 's');
        Gatemark y = new Gatemark();
        y.resin(5, 10, 0, 0, 0, false);
        y.lot(0, 1000, 0);
        y.machine(200, 500, 20, 40);
        y.setter(1);
        y.tool(0, 1, false, false, 9999);
        y.cell(0, 0, 10, 3, 0, 0);
        Works.mounted(y);
        y.shot(0);
        C.is("5 by 3 is cut to 1: two ticks of 5", y.last(0, 'f'), 4);
    }

    private static void holdingOnlyWhatHangsTogether() {
        Gatemark x = Works.begun();
        x.tool(0, 1, false, false, 100);
        x.cell(0, 0, 2, 2, 0, -1);
        x.cell(0, 1, 5, 5, 0, 0);
        x.cell(0, 0, 5, 5, 0, 0);
        x.cell(0, 0, 1, 1, 0, 1);
        Works.mounted(x);
        x.setting(0, 20, 10, 30);
        x.shot(0);
        C.is("the gate freezes", x.tickOf(0, 1, true), 6);
        C.is("filling", x.last(0, 'f'), 4);
        C.is("behind it two ticks, beside the cell 0 until 26: 22 ticks", x.partOf(0, 'w'), 200);
        C.is("shrinking of 980 and 780", x.partOf(0, 's'), 880);
        C.is("it warps above the limit", x.isBad(0), true);
        C.is("a frozen cell gains nothing", x.partOf(1, 's'), 1000);
        C.is("one cell does not warp", x.partOf(1, 'w'), 0);
        C.is("28 and 5", x.last(0, 'l'), 39);
        Gatemark y = Works.twoCavities(false);
        y.setting(0, 20, 99, 60);
        y.setNozzle(0, 0, 'h');
        y.setNozzle(0, 1, 'h');
        y.shot(0);
        C.is("60 ticks of 99 leave nothing", y.partOf(0, 's'), 0);
        C.is("8 ticks of 99", y.partOf(1, 's'), 208);
        C.is("63 and 5", y.last(0, 'l'), 68);
    }

    private static void foresee() {
        Gatemark x = Works.badCavity();
        C.is("a trap", x.foresee(0), 't');
        C.is("it looks", x.parts(), 0);
        C.is("and takes nothing", x.grams(0), 99980);
        x.block(0, 1, true);
        C.is("nothing of that", x.foresee(0), '-');
        x.block(0, 0, true);
        C.is("no cavity is open", x.foresee(0), '-');
        x.feed(0, 0, 0);
        C.is("without a hopper", x.foresee(0), '-');
        C.fails("of no shot", Works.NONE, () -> x.last(0, 'l'));
        C.fails("no such machine", Works.INDEX, () -> x.foresee(1));
        Gatemark y = Works.begun();
        C.fails("nothing", Works.NONE, () -> y.foresee(0));
        y.setting(0, 1, 0, 0);
        y.purge(0, 0, 0);
        C.fails("no tool", Works.NONE, () -> y.foresee(0));
        y.tool(0, 1, false, false, 0);
        y.mount(0, 0, 0);
        C.is("a tool without cavities", y.foresee(0), '-');
        y.machine(200, 500, 20, 40);
        y.tool(0, 1, false, false, 0);
        y.mount(1, 1, 0);
        y.setting(1, 1, 0, 0);
        C.fails("no resin", Works.NONE, () -> y.foresee(1));
        y.purge(1, 0, 0);
        y.machine(200, 500, 20, 40);
        y.purge(2, 0, 0);
        y.tool(0, 1, false, false, 0);
        y.mount(2, 2, 0);
        C.fails("no setting", Works.NONE, () -> y.foresee(2));
    }

    private static void last() {
        Gatemark x = Works.badCavity();
        C.fails("none", Works.NONE, () -> x.last(0, 'l'));
        C.fails("no such thing, and none", Works.ARGUMENT, () -> x.last(0, 'x'));
        x.shot(0);
        C.is("length", x.last(0, 'l'), 31);
        C.is("filling", x.last(0, 'f'), 4);
        C.is("welds", x.last(0, 'w'), 0);
        C.is("traps", x.last(0, 't'), 1);
        C.is("not full", x.last(0, 'n'), 1);
        C.is("grams", x.last(0, 'g'), 9);
        x.act(0, 'f');
        x.act(0, 't');
        x.act(0, 'b');
        x.block(0, 1, true);
        C.is("the shot stays as it was", x.last(0, 'n'), 1);
        x.shot(0);
        C.is("a closed cell is not counted", x.last(0, 'n'), 0);
        C.is("grams of the open ones", x.last(0, 'g'), 7);
        C.fails("no such thing", Works.ARGUMENT, () -> x.last(0, 'L'));
        C.fails("no such machine", Works.INDEX, () -> x.last(1, 'x'));
        C.fails("machine -1", Works.INDEX, () -> x.last(-1, 'l'));
    }

    private static void tickOf() {
        Gatemark x = Works.twoCavities(false);
        C.fails("no shot", Works.NONE, () -> x.tickOf(0, 0, false));
        x.shot(0);
        C.is("the cell 0", x.tickOf(0, 0, false), 1);
        C.is("the cell 0 froze", x.tickOf(0, 0, true), 26);
        C.is("the cell 2", x.tickOf(0, 2, false), 2);
        C.is("the cell 2 froze", x.tickOf(0, 2, true), 11);
        C.fails("no such cell", Works.INDEX, () -> x.tickOf(0, 3, false));
        C.fails("cell -1", Works.INDEX, () -> x.tickOf(0, -1, true));
        C.fails("no such machine", Works.INDEX, () -> x.tickOf(1, 0, false));
        x.setFlow(0, 0, 0);
        C.is("the shot stays as it was", x.tickOf(0, 2, true), 11);
        x.act(0, 'f');
        x.act(0, 't');
        x.act(0, 'b');
        x.tool(0, 1, false, false, 0);
        x.mount(0, 1, 0);
        C.is("with another tool, too", x.tickOf(0, 2, true), 11);
    }

    private static void act() {
        Gatemark x = Works.begun();
        C.fails("no tool", Works.NONE, () -> x.act(0, 'o'));
        C.fails("no such act, no tool", Works.ARGUMENT, () -> x.act(0, 's'));
        C.fails("no such machine", Works.INDEX, () -> x.act(1, 's'));
        Gatemark y = Works.twoCavities(true);
        refusesAllBut(y, ' ');
        y.shot(0);
        String order = "oftbi";
        String next = "ftbis";
        for (int i = 0; i < 5; i++) {
            refusesAllBut(y, order.charAt(i));
            C.is("behind " + order.charAt(i), y.act(0, order.charAt(i)), next.charAt(i));
            C.is("the part", y.stateOf(0), i < 2 ? 'm' : 'o');
        }
        refusesAllBut(y, ' ');
        Gatemark z = Works.twoCavities(false);
        z.shot(0);
        order = "ftb";
        next = "tbs";
        for (int i = 0; i < 3; i++) {
            refusesAllBut(z, order.charAt(i));
            C.is("behind " + order.charAt(i), z.act(0, order.charAt(i)), next.charAt(i));
        }
        refusesAllBut(z, ' ');
        z.shot(0);
        z.act(0, 'f');
        z.act(0, 't');
        C.is("the parts of both shots", z.stateOf(0) + z.stateOf(3), 'o' + 'o');
    }

    private static void refusesAllBut(Gatemark x, char right) {
        for (char what : "oftbi".toCharArray()) {
            if (what != right) {
                C.fails(what + " collides", Works.UNSUPPORTED, () -> x.act(0, what));
            }
        }
    }

    private static void breakRobot() {
        Gatemark x = Works.twoCavities(false);
        C.is("it works", x.breakRobot(0, false), false);
        x.shot(0);
        C.is("it breaks", x.breakRobot(0, true), false);
        C.fails("it would collide first", Works.UNSUPPORTED, () -> x.act(0, 't'));
        C.is("the ejectors do not need it", x.act(0, 'f'), 't');
        C.fails("nobody takes", Works.STATE, () -> x.act(0, 't'));
        C.is("the part stays", x.stateOf(0), 'm');
        C.is("it is mended", x.breakRobot(0, false), true);
        C.is("it takes", x.act(0, 't'), 'b');
        x.breakRobot(0, true);
        C.is("ejectors back", x.act(0, 'b'), 's');
        C.fails("no shot with a broken one", Works.STATE, () -> x.shot(0));
        C.is("still broken", x.breakRobot(0, true), true);
        C.fails("no such machine", Works.INDEX, () -> x.breakRobot(1, true));
        C.fails("machine -1", Works.INDEX, () -> x.breakRobot(-1, true));
    }
}
