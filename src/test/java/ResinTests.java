/** Promises 1 to 9: a new object, resins and lots. */
public final class ResinTests {
    private static final Check C = new Check("resins and lots");

    public static void main(String[] args) {
        aNewObject();
        resin();
        lot();
        dry();
        gramsWaterGeneration();
        waste();
        grindTakesBadPartsAndWaste();
        grindRefuses();
        grindGenerations();
        grindGenerationOfParts();
        C.end();
    }

    private static void aNewObject() {
        Gatemark x = new Gatemark();
        C.is("parts of a new object", x.parts(), 0);
        C.is("isTrue of a new object", x.isTrue(), true);
        C.is("the hour behind an hour", x.pass(1), 1);
        C.fails("no resins", Works.INDEX, () -> x.waste(0));
        C.fails("no tools", Works.INDEX, () -> x.serve(0));
        C.fails("no machines", Works.INDEX, () -> x.breakRobot(0, false));
    }

    private static void resin() {
        Gatemark x = new Gatemark();
        C.fails("flow 0", Works.ARGUMENT, () -> x.resin(0, 1, 0, 0, 0, false));
        C.fails("flow 10", Works.ARGUMENT, () -> x.resin(10, 1, 0, 0, 0, false));
        C.fails("shrinking 0", Works.ARGUMENT, () -> x.resin(1, 0, 0, 0, 0, false));
        C.fails("shrinking 51", Works.ARGUMENT, () -> x.resin(1, 51, 0, 0, 0, false));
        C.fails("regrind -1", Works.ARGUMENT, () -> x.resin(1, 1, -1, 0, 0, false));
        C.fails("regrind 101", Works.ARGUMENT, () -> x.resin(1, 1, 101, 0, 0, false));
        C.fails("generations -1", Works.ARGUMENT, () -> x.resin(1, 1, 0, -1, 0, false));
        C.fails("generations 6", Works.ARGUMENT, () -> x.resin(1, 1, 0, 6, 0, false));
        C.fails("water -1", Works.ARGUMENT, () -> x.resin(1, 1, 0, 0, -1, false));
        C.fails("water 401", Works.ARGUMENT, () -> x.resin(1, 1, 0, 0, 401, false));
        C.is("the least resin", x.resin(1, 1, 0, 0, 0, false), 0);
        C.is("the greatest resin", x.resin(9, 50, 100, 5, 400, true), 1);
        for (int i = 2; i < 6; i++) {
            C.is("resin " + i, x.resin(1, 1, 0, 0, 0, false), i);
        }
        C.fails("a resin too many", Works.STATE, () -> x.resin(1, 1, 0, 0, 0, false));
        C.fails("a wrong resin too many", Works.ARGUMENT, () -> x.resin(0, 1, 0, 0, 0, false));
    }

    private static void lot() {
        Gatemark x = new Gatemark();
        C.fails("lot of no resin", Works.INDEX, () -> x.lot(0, 0, 0));
        x.resin(1, 1, 0, 0, 0, false);
        C.fails("lot of resin -1", Works.INDEX, () -> x.lot(-1, 1, 0));
        C.fails("lot of resin 1", Works.INDEX, () -> x.lot(1, 1, 0));
        C.fails("0 grams", Works.ARGUMENT, () -> x.lot(0, 0, 0));
        C.fails("100001 grams", Works.ARGUMENT, () -> x.lot(0, 100001, 0));
        C.fails("water -1", Works.ARGUMENT, () -> x.lot(0, 1, -1));
        C.fails("water 401", Works.ARGUMENT, () -> x.lot(0, 1, 401));
        C.is("the least lot", x.lot(0, 1, 0), 0);
        C.is("the greatest lot", x.lot(0, 100000, 400), 1);
        for (int i = 2; i < 24; i++) {
            C.is("lot " + i, x.lot(0, 1, 0), i);
        }
        C.fails("a lot too many", Works.STATE, () -> x.lot(0, 1, 0));
        C.fails("a wrong lot too many", Works.ARGUMENT, () -> x.lot(0, 0, 0));
        C.is("brought", x.brought(0), 100023);
    }

    private static void dry() {
        Gatemark x = new Gatemark();
        x.resin(1, 1, 0, 0, 0, false);
        x.lot(0, 10, 400);
        C.is("an hour of drying", x.dry(0, 1), 300);
        C.is("three hours of drying", x.dry(0, 3), 126);
        C.is("no time goes by", x.pass(1), 1);
        C.is("water behind the hour", x.water(0), 127);
        C.is("48 hours of drying", x.dry(0, 48), 0);
        C.fails("0 hours", Works.ARGUMENT, () -> x.dry(0, 0));
        C.fails("49 hours", Works.ARGUMENT, () -> x.dry(0, 49));
        C.fails("no such lot", Works.INDEX, () -> x.dry(1, 0));
        C.fails("lot -1", Works.INDEX, () -> x.dry(-1, 1));
    }

    private static void gramsWaterGeneration() {
        Gatemark x = Works.begun();
        C.is("grams", x.grams(0), 100000);
        C.is("water", x.water(0), 0);
        C.is("generation", x.generation(0), 0);
        x.purge(0, 0, 0);
        C.is("grams behind a purge", x.grams(0), 99980);
        for (int n : new int[] {-1, 1, Integer.MAX_VALUE, Integer.MIN_VALUE}) {
            C.fails("grams of " + n, Works.INDEX, () -> x.grams(n));
            C.fails("water of " + n, Works.INDEX, () -> x.water(n));
            C.fails("generation of " + n, Works.INDEX, () -> x.generation(n));
        }
    }

    private static void waste() {
        Gatemark x = Works.badCavity();
        C.is("waste of the purge", x.waste(0), 20);
        x.shot(0);
        C.is("a sprue of 2 and 48 that were not taken up", x.waste(0), 20 + 2 + 48);
        C.fails("waste of no resin", Works.INDEX, () -> x.waste(1));
        C.fails("waste of resin -1", Works.INDEX, () -> x.waste(-1));
    }

    private static void grindTakesBadPartsAndWaste() {
        Gatemark x = Works.badCavity();
        Works.press(x, 0);
        x.shot(0);
        C.is("waste of a purge and two shots", x.waste(0), 120);
        C.is("the new lot", x.grind(0), 1);
        C.is("122 grams less 2", x.grams(1), 120);
        C.is("lost", x.lost(0), 2);
        C.is("waste behind it", x.waste(0), 0);
        C.is("its generation", x.generation(1), 1);
        C.is("its water", x.water(1), 0);
        C.is("a good part is not ground", x.stateOf(0), 'o');
        C.is("a bad part is ground", x.stateOf(1), 'g');
        C.is("a bad part in the mould is not", x.stateOf(3), 'm');
        C.is("brought stays", x.brought(0), 100000);
        C.is("grams balance", x.isTrue(), true);
        C.fails("nothing more", Works.NONE, () -> x.grind(0));
    }

    private static void grindRefuses() {
        Gatemark x = Works.begun();
        C.fails("no such resin", Works.INDEX, () -> x.grind(1));
        C.fails("nothing", Works.NONE, () -> x.grind(0));
        x.purge(0, 0, 1);
        C.is("a lighter colour", x.purge(0, 0, 0), 50);
        C.is("waste", x.waste(0), 70);
        C.is("70 grams less 1", x.grams(x.grind(0)), 69);
        x.purge(0, 0, 1);
        x.purge(0, 0, 1);
        C.fails("40 grams", Works.NONE, () -> x.grind(0));
        for (int i = 2; i < 24; i++) {
            x.lot(0, 1, 0);
        }
        C.fails("40 grams, and 24 lots", Works.NONE, () -> x.grind(0));
        x.purge(0, 0, 1);
        C.fails("60 grams, but 24 lots", Works.STATE, () -> x.grind(0));
        C.is("the waste stays", x.waste(0), 60);
        Gatemark y = Works.begun();
        y.purge(0, 0, 1);
        y.purge(0, 0, 0);
        y.resin(1, 1, 0, 0, 0, false);
        C.fails("another resin has nothing", Works.NONE, () -> y.grind(1));
        Gatemark z = Works.begun();
        z.purge(0, 0, 0);
        z.tool(0, 1, false, false, 0);
        z.cell(0, 0, 1, 9, 0, 0);
        z.mount(0, 0, 0);
        z.setting(0, 20, 0, 0);
        z.feed(0, 0, 100);
        for (int i = 0; i < 15; i++) {
            Works.press(z, 0);
        }
        C.is("20 and 15 times 2", z.waste(0), 50);
        C.fails("50 grams are too few", Works.NONE, () -> z.grind(0));
        Works.press(z, 0);
        C.is("52 grams less 1", z.grams(z.grind(0)), 51);
    }

    private static void grindGenerations() {
        Gatemark x = Works.badCavity();
        Works.press(x, 0);
        x.grind(0);
        x.feed(0, 0, 99);
        x.feed(0, 1, 1);
        Works.press(x, 0);
        C.is("a share of 57 grams that is cut to nothing", x.lotIn(2, 1), 0);
        C.is("a lot that gave nothing does not count", x.generation(x.grind(0)), 1);
        x.feed(0, 0, 98);
        x.feed(0, 1, 2);
        Works.press(x, 0);
        C.is("a share of 57 grams that gives one", x.lotIn(4, 1), 1);
        C.is("one more than the greatest", x.generation(x.grind(0)), 2);
        x.feed(0, 0, 100);
        x.feed(0, 1, 0);
        Works.press(x, 0);
        C.is("waste since it was ground last", x.generation(x.grind(0)), 1);
        C.is("grams balance", x.isTrue(), true);
    }

    private static void grindGenerationOfParts() {
        Gatemark x = Works.badCavity();
        Works.press(x, 0);
        x.grind(0);
        x.purge(0, 0, 0);
        x.feed(0, 0, 50);
        x.feed(0, 1, 50);
        x.shot(0);
        C.is("waste of a lot of generation 1", x.generation(x.grind(0)), 2);
        x.act(0, 'f');
        x.act(0, 't');
        x.purge(0, 0, 1);
        x.purge(0, 0, 0);
        C.is("waste of new lots, but a bad part of generation 1", x.generation(x.grind(0)), 2);
        C.is("the part is ground", x.stateOf(3), 'g');
        x.purge(0, 0, 1);
        x.purge(0, 0, 0);
        C.is("waste of new lots", x.generation(x.grind(0)), 1);
        x.purge(0, 3, 1);
        x.purge(0, 0, 0);
        C.is("waste that a purge took of generation 2", x.generation(x.grind(0)), 3);
    }
}
