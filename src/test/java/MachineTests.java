/** Promises 19 to 26: machines, settings and mounting. */
public final class MachineTests {
    private static final Check C = new Check("machines");

    public static void main(String[] args) {
        machine();
        setting();
        copy();
        setter();
        mount();
        mountOnlyWhenClosed();
        purge();
        purgeForFood();
        purging();
        feed();
        C.end();
    }

    private static void machine() {
        Gatemark x = new Gatemark();
        C.fails("force 0", Works.ARGUMENT, () -> x.machine(0, 1, 1, 10));
        C.fails("force 1000", Works.ARGUMENT, () -> x.machine(1000, 1, 1, 10));
        C.fails("shot 0", Works.ARGUMENT, () -> x.machine(1, 0, 1, 10));
        C.fails("shot 2001", Works.ARGUMENT, () -> x.machine(1, 2001, 1, 10));
        C.fails("speed 0", Works.ARGUMENT, () -> x.machine(1, 1, 0, 10));
        C.fails("speed 100", Works.ARGUMENT, () -> x.machine(1, 1, 100, 10));
        C.fails("screw 9", Works.ARGUMENT, () -> x.machine(1, 1, 1, 9));
        C.fails("screw 100", Works.ARGUMENT, () -> x.machine(1, 1, 1, 100));
        C.is("the least machine", x.machine(1, 1, 1, 10), 0);
        C.is("the greatest machine", x.machine(999, 2000, 99, 99), 1);
        C.is("machine 2", x.machine(1, 1, 1, 10), 2);
        C.is("machine 3", x.machine(1, 1, 1, 10), 3);
        C.fails("a machine too many", Works.STATE, () -> x.machine(1, 1, 1, 10));
        C.fails("a wrong machine too many", Works.ARGUMENT, () -> x.machine(1, 1, 1, 9));
    }

    private static void setting() {
        Gatemark x = new Gatemark();
        C.fails("no machine", Works.INDEX, () -> x.setting(0, 0, 0, 0));
        x.machine(1, 1, 20, 10);
        x.machine(1, 1, 20, 10);
        C.is("the least setting", x.setting(0, 1, 0, 0), 1);
        C.is("the greatest setting", x.setting(1, 20, 99, 60), 2);
        x.copy(0, 1);
        C.fails("speed 0", Works.ARGUMENT, () -> x.setting(0, 0, 0, 0));
        C.fails("speed 21", Works.ARGUMENT, () -> x.setting(0, 21, 0, 0));
        C.fails("pressure -1", Works.ARGUMENT, () -> x.setting(0, 1, -1, 0));
        C.fails("pressure 100", Works.ARGUMENT, () -> x.setting(0, 1, 100, 0));
        C.fails("ticks -1", Works.ARGUMENT, () -> x.setting(0, 1, 0, -1));
        C.fails("ticks 61", Works.ARGUMENT, () -> x.setting(0, 1, 0, 61));
        C.is("copied ones count, refused ones do not", x.setting(0, 1, 0, 0), 4);
        C.fails("machine -1", Works.INDEX, () -> x.setting(-1, 1, 0, 0));
        C.fails("machine 2", Works.INDEX, () -> x.setting(2, 1, 0, 0));
    }

    private static void copy() {
        Gatemark x = new Gatemark();
        x.machine(1, 1, 99, 30);
        x.machine(1, 1, 99, 20);
        x.machine(1, 1, 50, 10);
        x.machine(1, 1, 99, 99);
        C.fails("no setting", Works.NONE, () -> x.copy(0, 1));
        x.setting(0, 11, 5, 6);
        C.is("11 times 900 by 400", x.copy(0, 1), 24);
        C.is("no more than its greatest", x.copy(0, 2), 50);
        C.is("and at least 1", x.copy(0, 3), 1);
        C.is("to itself", x.copy(0, 0), 11);
        C.is("told", x.setting(0, 1, 0, 0), 6);
        C.fails("no such machine", Works.INDEX, () -> x.copy(4, 0));
        C.fails("no such other machine", Works.INDEX, () -> x.copy(0, 4));
        C.fails("machine -1", Works.INDEX, () -> x.copy(-1, 0));
        C.fails("other machine -1", Works.INDEX, () -> x.copy(0, -1));
        Gatemark y = Works.begun();
        y.machine(200, 500, 20, 40);
        y.tool(0, 1, false, false, 9999);
        y.cell(0, 0, 5, 3, 0, 0);
        y.setting(0, 20, 10, 5);
        y.copy(0, 1);
        y.mount(1, 0, 0);
        y.purge(1, 0, 0);
        y.feed(1, 0, 100);
        Works.press(y, 1);
        C.is("it keeps pressure and ticks", y.partOf(0, 's'), 950);
        C.is("it is a new setting", y.partOf(0, 'p'), 1);
    }

    private static void setter() {
        Gatemark x = new Gatemark();
        C.fails("skill -1", Works.ARGUMENT, () -> x.setter(-1));
        C.fails("skill 4", Works.ARGUMENT, () -> x.setter(4));
        for (int i = 0; i < 9; i++) {
            C.is("setter " + i, x.setter(i % 4), i);
        }
        C.fails("a setter too many", Works.STATE, () -> x.setter(0));
        C.fails("a wrong setter too many", Works.ARGUMENT, () -> x.setter(4));
    }

    private static void mount() {
        Gatemark x = new Gatemark();
        x.machine(100, 1, 1, 10);
        x.machine(200, 1, 1, 10);
        x.tool(2, 100, false, false, 0);
        x.tool(0, 101, false, false, 0);
        x.setter(1);
        x.setter(2);
        C.fails("the skill is not enough", Works.UNSUPPORTED, () -> x.mount(0, 0, 0));
        C.fails("the force is not enough", Works.UNSUPPORTED, () -> x.mount(0, 1, 1));
        C.is("no tool before", x.mount(0, 0, 1), -1);
        C.fails("it is on another machine", Works.UNSUPPORTED, () -> x.mount(1, 0, 1));
        C.is("the same again", x.mount(0, 0, 1), 0);
        C.is("another tool", x.mount(1, 1, 1), -1);
        C.is("in place of that", x.mount(1, 1, 0), 1);
        x.tool(0, 1, false, false, 0);
        C.is("in place of the first", x.mount(0, 2, 0), 0);
        C.is("which is free then", x.serve(0), 0);
        C.is("for another machine", x.mount(1, 0, 1), 1);
        C.fails("no such machine", Works.INDEX, () -> x.mount(2, 0, 0));
        C.fails("no such tool", Works.INDEX, () -> x.mount(0, 3, 0));
        C.fails("no such setter", Works.INDEX, () -> x.mount(0, 0, 2));
        C.fails("machine -1", Works.INDEX, () -> x.mount(-1, 0, 0));
        C.fails("tool -1", Works.INDEX, () -> x.mount(0, -1, 0));
        C.fails("setter -1", Works.INDEX, () -> x.mount(0, 0, -1));
    }

    private static void mountOnlyWhenClosed() {
        Gatemark x = Works.twoCavities(true);
        x.tool(1, 1, false, false, 0);
        x.tool(3, 1, false, false, 0);
        x.shot(0);
        C.fails("a part is in the mould", Works.STATE, () -> x.mount(0, 1, 0));
        C.fails("and the skill is not enough", Works.UNSUPPORTED, () -> x.mount(0, 2, 0));
        for (char what : "oftb".toCharArray()) {
            x.act(0, what);
            C.fails("behind " + what, Works.STATE, () -> x.mount(0, 1, 0));
        }
        x.act(0, 'i');
        C.is("all is closed", x.mount(0, 1, 0), 0);
        C.fails("the other tool was not pressed", Works.UNSUPPORTED, () -> x.act(0, 'f'));
    }

    private static void purge() {
        Gatemark x = Works.twoCavities(true);
        C.is("the same again", x.purge(0, 0, 0), 20);
        C.is("waste of both", x.waste(0), 40);
        x.lot(0, 1, 0);
        C.is("its hopper is empty then", x.feed(0, 1, 1), 1);
        C.is("darker", x.purge(0, 0, 7), 20);
        C.is("3 steps lighter", x.purge(0, 0, 4), 110);
        x.resin(1, 1, 0, 0, 400, false);
        x.lot(1, 165, 400);
        C.is("another resin, 2 steps lighter", x.purge(0, 2, 2), 130);
        C.is("waste of the new resin", x.waste(1), 130);
        C.is("its lot", x.grams(2), 35);
        C.fails("50 grams are not there", Works.STATE, () -> x.purge(0, 2, 1));
        C.is("20 are", x.purge(0, 2, 2), 20);
        C.fails("15 are too few", Works.STATE, () -> x.purge(0, 2, 2));
        C.is("brought", x.brought(1), 165);
        x.purge(0, 0, 0);
        x.feed(0, 0, 100);
        x.shot(0);
        C.fails("a part is in the mould", Works.STATE, () -> x.purge(0, 0, 0));
        x.act(0, 'o');
        x.act(0, 'f');
        C.fails("still", Works.STATE, () -> x.purge(0, 0, 0));
        x.act(0, 't');
        C.is("it is out", x.purge(0, 0, 0), 20);
        C.fails("no such machine", Works.INDEX, () -> x.purge(1, 0, 8));
        C.fails("no such lot", Works.INDEX, () -> x.purge(0, 3, 8));
        C.fails("lot -1", Works.INDEX, () -> x.purge(0, -1, 0));
        C.fails("colour -1", Works.ARGUMENT, () -> x.purge(0, 0, -1));
        C.fails("colour 8, of a lot of too few grams", Works.ARGUMENT, () -> x.purge(0, 2, 8));
        C.is("grams balance", x.isTrue(), true);
    }

    private static void purgeForFood() {
        Gatemark x = Works.begun();
        x.resin(1, 1, 0, 0, 400, true);
        x.lot(1, 9999, 0);
        x.tool(0, 1, false, true, 0);
        C.is("without an old resin", x.purge(0, 0, 5), 20);
        C.is("a food resin", x.purging(0, 1, 5), 270);
        C.is("a resin that is not", x.purging(0, 0, 5), 20);
        x.mount(0, 0, 0);
        C.is("a food tool, the same resin", x.purging(0, 0, 5), 220);
        C.is("a food tool, a food resin", x.purge(0, 1, 5), 270);
        C.is("the old one is for food", x.purging(0, 1, 5), 20);
        C.is("and the new one is not", x.purge(0, 0, 5), 70);
        C.is("all together", x.purge(0, 1, 0), 420);
    }

    private static void purging() {
        Gatemark x = Works.begun();
        C.is("without an old resin", x.purging(0, 0, 0), 20);
        x.purge(0, 0, 7);
        x.resin(1, 1, 0, 0, 400, false);
        C.is("a resin without lots, 7 steps", x.purging(0, 1, 0), 280);
        C.is("it only tells", x.waste(0), 20);
        C.fails("no such machine", Works.INDEX, () -> x.purging(1, 0, 8));
        C.fails("no such resin", Works.INDEX, () -> x.purging(0, 2, 8));
        C.fails("resin -1", Works.INDEX, () -> x.purging(0, -1, 0));
        C.fails("colour 8", Works.ARGUMENT, () -> x.purging(0, 0, 8));
        C.fails("colour -1", Works.ARGUMENT, () -> x.purging(0, 0, -1));
    }

    private static void feed() {
        Gatemark x = Works.begun();
        C.fails("no resin", Works.UNSUPPORTED, () -> x.feed(0, 0, 0));
        x.purge(0, 0, 0);
        x.resin(1, 1, 0, 0, 0, false);
        x.lot(1, 1, 0);
        for (int i = 2; i < 6; i++) {
            x.lot(0, 1, 0);
        }
        C.fails("another resin", Works.UNSUPPORTED, () -> x.feed(0, 1, 1));
        C.is("the first", x.feed(0, 2, 100), 100);
        C.is("the sum may be more as yet", x.feed(0, 3, 100), 200);
        C.is("a share is changed", x.feed(0, 2, 10), 110);
        C.is("0 of what is not there", x.feed(0, 0, 0), 110);
        x.feed(0, 4, 1);
        C.is("four", x.feed(0, 5, 1), 112);
        C.fails("five", Works.STATE, () -> x.feed(0, 0, 1));
        C.is("none more with 0", x.feed(0, 0, 0), 112);
        C.is("one is taken out", x.feed(0, 3, 0), 12);
        C.is("another one put in", x.feed(0, 0, 88), 100);
        C.fails("no such machine", Works.INDEX, () -> x.feed(1, 0, 101));
        C.fails("no such lot", Works.INDEX, () -> x.feed(0, 6, 101));
        C.fails("lot -1", Works.INDEX, () -> x.feed(0, -1, 1));
        C.fails("share -1", Works.ARGUMENT, () -> x.feed(0, 0, -1));
        C.fails("share 101", Works.ARGUMENT, () -> x.feed(0, 1, 101));
    }
}
