/** Promises 33 to 50: parts, charts, boxes and causes. */
public final class PartTests {
    private static final Check C = new Check("parts");

    public static void main(String[] args) {
        pass();
        partOf();
        lotIn();
        stateOf();
        size();
        measure();
        measureRefuses();
        isBad();
        points();
        warningOfSizes();
        warningOfTrends();
        box();
        boxRefuses();
        causeCavity();
        causeLot();
        causeSetting();
        noCause();
        sums();
        shares();
        isTrue();
        C.end();
    }

    private static void pass() {
        Gatemark x = Works.begun();
        x.lot(0, 20, 399);
        x.lot(0, 20, 10);
        x.purge(0, 2, 0);
        C.is("an hour", x.pass(1), 1);
        C.is("water", x.water(1), 400);
        C.is("a hundred", x.pass(100), 101);
        C.is("no more than 400", x.water(1), 400);
        C.is("101 more", x.water(0), 101);
        C.is("a lot without grams takes none up", x.water(2), 10);
        C.fails("0 hours", Works.ARGUMENT, () -> x.pass(0));
        C.fails("101 hours", Works.ARGUMENT, () -> x.pass(101));
        C.fails("-1 hours", Works.ARGUMENT, () -> x.pass(-1));
        C.is("the hour", x.pass(1), 102);
    }

    private static void partOf() {
        Gatemark x = Works.begun();
        x.machine(200, 500, 20, 40);
        x.tool(0, 1, false, false, 0);
        x.tool(0, 1, false, false, 0);
        x.cell(1, 0, 5, 3, 0, 1);
        x.cell(1, 1, 6, 3, 0, 3);
        x.setting(0, 1, 0, 0);
        x.setting(1, 20, 10, 9);
        x.mount(1, 1, 0);
        x.purge(1, 0, 0);
        x.feed(1, 0, 100);
        x.pass(7);
        x.shot(1);
        int[] first = {1, 1, 1, 7, 5, 940, 0, 1};
        int[] second = {1, 1, 3, 7, 6, 940, 0, 1};
        String signs = "mtchgswp";
        for (int i = 0; i < signs.length(); i++) {
            C.is(signs.charAt(i) + " of 0", x.partOf(0, signs.charAt(i)), first[i]);
            C.is(signs.charAt(i) + " of 1", x.partOf(1, signs.charAt(i)), second[i]);
        }
        x.setting(1, 1, 0, 0);
        x.pass(1);
        C.is("the setting as it was", x.partOf(0, 'p'), 1);
        C.is("the hour of the shot", x.partOf(0, 'h'), 7);
        C.fails("no such thing", Works.ARGUMENT, () -> x.partOf(0, 'x'));
        C.fails("no such part", Works.INDEX, () -> x.partOf(2, 'x'));
        C.fails("part -1", Works.INDEX, () -> x.partOf(-1, 'm'));
    }

    private static void lotIn() {
        Gatemark x = Works.twoCavities(false);
        x.lot(0, 100, 0);
        x.shot(0);
        C.is("all of the shot", x.lotIn(0, 0), 12);
        C.is("for each part", x.lotIn(1, 0), 12);
        C.is("nothing of another lot", x.lotIn(0, 1), 0);
        C.fails("no such part", Works.INDEX, () -> x.lotIn(2, 0));
        C.fails("no such lot", Works.INDEX, () -> x.lotIn(0, 2));
        C.fails("part -1", Works.INDEX, () -> x.lotIn(-1, 0));
        C.fails("lot -1", Works.INDEX, () -> x.lotIn(0, -1));
    }

    private static void stateOf() {
        Gatemark x = Works.badCavity();
        x.shot(0);
        C.is("in the mould", x.stateOf(0), 'm');
        x.act(0, 'f');
        x.act(0, 't');
        C.is("out", x.stateOf(0), 'o');
        x.grind(0);
        C.is("ground", x.stateOf(1), 'g');
        x.pass(24);
        x.box(0, 1, 1);
        C.is("in a box", x.stateOf(0), 'b');
        C.fails("no such part", Works.INDEX, () -> x.stateOf(2));
        C.fails("part -1", Works.INDEX, () -> x.stateOf(-1));
    }

    private static void size() {
        Gatemark x = Works.twoCavities(false);
        x.shot(0);
        C.is("712 of 950 at once", x.size(0), 99288);
        x.pass(1);
        C.is("238 by 24, cut", x.size(0), 99279);
        x.pass(11);
        C.is("half of the rest", x.size(0), 99169);
        x.pass(11);
        C.is("238 times 23 by 24, cut", x.size(0), 99060);
        x.pass(1);
        C.is("all", x.size(0), 99050);
        x.pass(100);
        C.is("24 hours at most", x.size(1), 99050);
        C.fails("no such part", Works.INDEX, () -> x.size(2));
        C.fails("part -1", Works.INDEX, () -> x.size(-1));
    }

    private static void measure() {
        Gatemark x = Works.twoCavities(false);
        for (int i = 0; i < 2; i++) {
            Works.press(x, 0);
        }
        x.pass(24);
        x.setNominal(0, 0, 99000, 49);
        C.is("50 above, 49 are allowed", x.measure(0), false);
        C.is("it is bad then", x.isBad(0), true);
        C.is("one that was not measured is not", x.isBad(2), false);
        x.setNominal(0, 0, 99000, 50);
        C.is("50 are allowed", x.measure(2), true);
        C.is("the first one stays bad", x.isBad(0), true);
        x.setNominal(0, 1, 99100, 49);
        C.is("50 below", x.measure(1), false);
        x.setNominal(0, 1, 99100, 50);
        C.is("50 below are allowed", x.measure(3), true);
    }

    private static void measureRefuses() {
        Gatemark x = Works.badCavity();
        C.fails("no such part", Works.INDEX, () -> x.measure(0));
        x.shot(0);
        C.fails("in the mould", Works.UNSUPPORTED, () -> x.measure(0));
        x.pass(24);
        C.fails("in the mould for a day", Works.UNSUPPORTED, () -> x.measure(0));
        x.act(0, 'f');
        x.act(0, 't');
        x.act(0, 'b');
        C.fails("a cell was not full", Works.UNSUPPORTED, () -> x.measure(1));
        C.is("measured", x.measure(0), true);
        C.fails("again", Works.UNSUPPORTED, () -> x.measure(0));
        Works.press(x, 0);
        x.pass(23);
        C.fails("23 hours", Works.STATE, () -> x.measure(2));
        C.fails("23 hours, and not full", Works.UNSUPPORTED, () -> x.measure(3));
        C.fails("part -1", Works.INDEX, () -> x.measure(-1));
        x.pass(1);
        x.box(0, 1, 1);
        x.box(0, 1, 1);
        C.is("in a box", x.measure(2), true);
        Gatemark y = warped();
        C.is("its warp", y.partOf(0, 'w'), 120);
        y.grind(0);
        C.is("ground", y.stateOf(0), 'g');
        C.fails("a ground one", Works.UNSUPPORTED, () -> y.measure(0));
    }

    /** A works with a part that is whole, but warps by 120 where 119 are allowed. */
    private static Gatemark warped() {
        Gatemark x = Works.begun();
        x.tool(0, 1, false, false, 119);
        x.cell(0, 0, 2, 2, 0, -1);
        x.cell(0, 1, 5, 5, 0, 0);
        x.cell(0, 0, 45, 5, 0, 0);
        Works.mounted(x);
        x.setting(0, 20, 10, 30);
        x.setFlow(0, 0, 9);
        Works.press(x, 0);
        x.pass(24);
        return x;
    }

    private static void isBad() {
        Gatemark x = Works.badCavity();
        x.shot(0);
        C.is("whole", x.isBad(0), false);
        C.is("not full, in the mould", x.isBad(1), true);
        C.fails("no such part", Works.INDEX, () -> x.isBad(2));
        C.fails("part -1", Works.INDEX, () -> x.isBad(-1));
        for (int limit = 0; limit < 2; limit++) {
            Gatemark y = Works.begun();
            y.tool(0, 1, false, false, 49 + limit);
            y.cell(0, 0, 5, 3, 0, 0);
            y.cell(0, 0, 1, 1, 0, 0);
            Works.mounted(y);
            y.shot(0);
            C.is("it warps by 50", y.partOf(0, 'w'), 50);
            C.is("the limit is " + (49 + limit), y.isBad(0), limit == 0);
        }
    }

    private static void points() {
        Gatemark x = Works.twoCavities(false);
        Works.press(x, 0);
        Works.press(x, 0);
        C.is("none", x.points(0, 0), 0);
        x.pass(24);
        x.measure(2);
        C.is("one", x.points(0, 0), 1);
        C.is("none in the other", x.points(0, 1), 0);
        x.measure(0);
        x.measure(1);
        C.is("two", x.points(0, 0), 2);
        C.is("one in the other", x.points(0, 1), 1);
        C.fails("no such tool", Works.INDEX, () -> x.points(1, 0));
        C.fails("no such cavity", Works.INDEX, () -> x.points(0, 2));
        C.fails("cavity -1", Works.INDEX, () -> x.points(0, -1));
        C.fails("cavity 4", Works.INDEX, () -> x.points(0, 4));
    }

    private static void warningOfSizes() {
        Gatemark x = Works.twoCavities(false);
        Works.pressAt(x, 10);
        Works.pressAt(x, 12);
        Works.pressAt(x, 8);
        x.pass(24);
        C.fails("no points", Works.NONE, () -> x.warning(0, 0));
        x.measure(4);
        x.measure(0);
        x.measure(2);
        C.fails("no warning", Works.NONE, () -> x.warning(0, 0));
        x.setNominal(0, 0, 99000, 59);
        C.is("99060 is the third that was measured", x.warning(0, 0), 2);
        x.setNominal(0, 0, 99000, 60);
        C.fails("as they are now", Works.NONE, () -> x.warning(0, 0));
        x.setNominal(0, 0, 99100, 59);
        C.is("99040 is the first", x.warning(0, 0), 0);
        C.fails("no points in the other", Works.NONE, () -> x.warning(0, 1));
        C.fails("no such tool", Works.INDEX, () -> x.warning(1, 0));
        C.fails("no such cavity", Works.INDEX, () -> x.warning(0, 3));
        C.fails("cavity -1", Works.INDEX, () -> x.warning(0, -1));
    }

    private static int trend(int... pressures) {
        Gatemark x = Works.twoCavities(false);
        for (int pressure : pressures) {
            Works.pressAt(x, pressure);
        }
        x.pass(24);
        for (int i = 0; i < pressures.length; i++) {
            x.measure(2 * i + 1);
        }
        try {
            return x.warning(0, 1);
        } catch (java.util.NoSuchElementException e) {
            return -1;
        }
    }

    private static void warningOfTrends() {
        C.is("four rise", trend(1, 2, 3, 4), -1);
        C.is("five rise", trend(1, 2, 3, 4, 5), 4);
        C.is("six rise", trend(1, 2, 3, 4, 5, 6), 4);
        C.is("five fall", trend(5, 4, 3, 2, 1), 4);
        C.is("they stand still once", trend(1, 2, 3, 3, 4, 5), -1);
        C.is("they fall in between", trend(1, 2, 3, 4, 0, 1, 2, 3), -1);
        C.is("and rise again", trend(1, 2, 3, 4, 0, 1, 2, 3, 9), 8);
        C.is("behind a fall", trend(9, 8, 7, 6, 7, 8, 9, 10), 7);
    }

    private static void box() {
        Gatemark x = Works.twoCavities(false);
        for (int i = 0; i < 4; i++) {
            Works.press(x, 0);
        }
        x.pass(24);
        Works.press(x, 0);
        x.setNominal(0, 0, 100000, 0);
        x.measure(2);
        C.is("2 of each", x.box(0, 3, 2), 0);
        int[] inIt = {0, 4, 1, 3};
        for (int i = 0; i < 4; i++) {
            C.is("index " + i, x.inBox(0, i), inIt[i]);
        }
        C.is("in the box", x.stateOf(4), 'b');
        C.is("a bad one is not", x.stateOf(2), 'o');
        C.fails("no such part of it", Works.INDEX, () -> x.inBox(0, 4));
        C.fails("index -1", Works.INDEX, () -> x.inBox(0, -1));
        C.fails("no such box", Works.INDEX, () -> x.inBox(1, 0));
        C.fails("box -1", Works.INDEX, () -> x.inBox(-1, 0));
        C.fails("one of the cavity 0, two of the other", Works.NONE, () -> x.box(0, 3, 2));
        C.is("none was taken", x.stateOf(5), 'o');
        C.is("2 of the cavity 1", x.box(0, 2, 2), 1);
        C.is("its first", x.inBox(1, 0), 5);
        C.fails("a part in no day is too new", Works.NONE, () -> x.box(0, 2, 1));
        C.is("1 of the cavity 0", x.box(0, 1, 1), 2);
        C.is("its only", x.inBox(2, 0), 6);
        x.pass(24);
        C.is("a day later", x.box(0, 3, 1), 3);
    }

    private static void boxRefuses() {
        Gatemark x = Works.twoCavities(false);
        C.fails("no such tool", Works.INDEX, () -> x.box(1, 1, 0));
        C.fails("none is asked for", Works.INDEX, () -> x.box(0, 0, 0));
        C.fails("no such cavity", Works.INDEX, () -> x.box(0, 4, 0));
        C.fails("one that is there and one that is not", Works.INDEX, () -> x.box(0, 9, 1));
        C.fails("none of the four", Works.INDEX, () -> x.box(0, 16, 1));
        C.fails("all and more", Works.INDEX, () -> x.box(0, -1, 1));
        C.fails("0 of each", Works.ARGUMENT, () -> x.box(0, 1, 0));
        C.fails("10 of each", Works.ARGUMENT, () -> x.box(0, 3, 10));
        C.fails("no parts", Works.NONE, () -> x.box(0, 1, 1));
        x.shot(0);
        x.pass(24);
        C.fails("in the mould", Works.NONE, () -> x.box(0, 1, 1));
        x.act(0, 'f');
        x.act(0, 't');
        x.act(0, 'b');
        for (int i = 0; i < 10; i++) {
            Works.press(x, 0);
        }
        x.pass(24);
        for (int i = 0; i < 20; i++) {
            C.is("box " + i, x.box(0, 1 + i % 2, 1), i);
        }
        C.fails("a box too many", Works.STATE, () -> x.box(0, 1, 1));
        C.fails("two parts that are not there", Works.NONE, () -> x.box(0, 1, 2));
        C.is("the part stays", x.stateOf(20), 'o');
        Gatemark y = Works.badCavity();
        Works.press(y, 0);
        y.pass(24);
        C.fails("a bad part", Works.NONE, () -> y.box(0, 2, 1));
        C.fails("with a good one", Works.NONE, () -> y.box(0, 3, 1));
        Gatemark z = Works.twoCavities(false);
        Works.press(z, 0);
        z.pass(24);
        z.box(0, 1, 1);
        z.setNominal(0, 0, 100000, 0);
        C.is("a boxed part can turn out bad", z.measure(0), false);
        z.purge(0, 0, 1);
        z.purge(0, 0, 0);
        C.is("and is ground, as it was taken out", z.grams(z.grind(0)), 96);
        C.is("then it is ground", z.stateOf(0), 'g');
    }

    private static void causeCavity() {
        Gatemark x = Works.badCavity();
        C.fails("no such tool", Works.INDEX, () -> x.cause(1));
        C.fails("tool -1", Works.INDEX, () -> x.cause(-1));
        C.fails("no parts", Works.NONE, () -> x.cause(0));
        x.shot(0);
        C.fails("in the mould", Works.NONE, () -> x.cause(0));
        x.act(0, 'f');
        x.act(0, 't');
        x.act(0, 'b');
        C.is("the cavity 1", x.cause(0), 101);
        x.grind(0);
        C.is("ground ones count", x.cause(0), 101);
        x.pass(24);
        x.box(0, 1, 1);
        C.is("and those in boxes", x.cause(0), 101);
    }

    private static void causeLot() {
        Gatemark x = Works.twoCavities(false);
        x.lot(0, 1000, 0);
        x.lot(0, 1000, 0);
        Works.press(x, 0);
        x.feed(0, 0, 94);
        x.feed(0, 2, 6);
        Works.press(x, 0);
        C.is("6 hundredths of 12 are nothing", x.lotIn(2, 2), 0);
        x.feed(0, 0, 90);
        x.feed(0, 2, 10);
        Works.press(x, 0);
        C.is("10 hundredths of 12 are one", x.lotIn(4, 2), 1);
        x.pass(24);
        x.setNominal(0, 0, 90000, 1);
        x.setNominal(0, 1, 90000, 1);
        x.measure(4);
        C.fails("the other part of it is good", Works.NONE, () -> x.cause(0));
        x.measure(5);
        C.is("the lot 2", x.cause(0), 202);
    }

    private static void causeSetting() {
        Gatemark x = Works.twoCavities(false);
        x.setting(0, 20, 0, 5);
        Works.press(x, 0);
        x.setting(0, 20, 10, 5);
        Works.press(x, 0);
        x.setting(0, 20, 0, 5);
        Works.press(x, 0);
        x.pass(24);
        x.setNominal(0, 0, 99000, 10);
        x.setNominal(0, 1, 99000, 10);
        for (int i = 0; i < 6; i++) {
            C.is("measured " + i, x.measure(i), i != 2 && i != 3);
        }
        C.is("the setting 2, told behind 0 and 1", x.cause(0), 302);
    }

    private static void noCause() {
        Gatemark x = Works.twoCavities(false);
        Works.press(x, 0);
        C.fails("no bad part", Works.NONE, () -> x.cause(0));
        Works.press(x, 0);
        x.pass(24);
        x.setNominal(0, 0, 90000, 1);
        x.measure(0);
        C.fails("one of two that are alike", Works.NONE, () -> x.cause(0));
        x.measure(2);
        C.is("both, and the other cavity is good", x.cause(0), 100);
        x.setNominal(0, 1, 90000, 1);
        x.measure(1);
        C.fails("one of the other cavity is bad, one is good", Works.NONE, () -> x.cause(0));
        x.measure(3);
        C.is("all are bad: of no cavity, but of the lot", x.cause(0), 200);
        x.tool(0, 1, false, false, 0);
        C.fails("another tool has no parts", Works.NONE, () -> x.cause(1));
    }

    private static void sums() {
        Gatemark x = Works.badCavity();
        x.resin(1, 1, 0, 0, 0, false);
        x.lot(0, 5, 0);
        C.is("brought", x.brought(0), 100005);
        C.is("brought of another resin", x.brought(1), 0);
        C.is("lost", x.lost(0), 0);
        Works.press(x, 0);
        Works.press(x, 0);
        x.grind(0);
        C.is("124 by 50, cut", x.lost(0), 2);
        C.is("of another resin", x.lost(1), 0);
        C.is("grinding brings nothing", x.brought(0), 100005);
        C.is("parts stay parts", x.parts(), 4);
        for (int n : new int[] {-1, 2}) {
            C.fails("brought of " + n, Works.INDEX, () -> x.brought(n));
            C.fails("lost of " + n, Works.INDEX, () -> x.lost(n));
        }
    }

    private static void shares() {
        Gatemark x = Works.badCavity();
        C.fails("no share without parts", Works.ARITHMETIC, () -> x.badShare());
        C.fails("no mean without parts", Works.ARITHMETIC, () -> x.meanShrinking());
        x.shot(0);
        C.is("half, in the mould", x.badShare(), 0.5f);
        C.is("the mean of 950 and 1000", x.meanShrinking(), 975.0);
        x.act(0, 'f');
        x.act(0, 't');
        x.act(0, 'b');
        x.grind(0);
        x.block(0, 1, true);
        Works.press(x, 0);
        C.is("a third, ground ones too", x.badShare(), (float) 1 / (float) 3);
        C.is("the mean of three", x.meanShrinking(), 2900.0 / 3.0);
    }

    private static void isTrue() {
        Gatemark x = Works.badCavity();
        for (int i = 0; i < 3; i++) {
            Works.press(x, 0);
            C.is("behind a shot", x.isTrue(), true);
        }
        x.setFlow(0, 0, 0);
        x.setNozzle(0, 2, 'h');
        x.block(0, 0, true);
        x.setting(0, 1, 0, 0);
        C.is("from the shot alone, not from the tool as it is now", x.isTrue(), true);
        x.grind(0);
        C.is("behind grinding", x.isTrue(), true);
        x.pass(24);
        x.block(0, 0, false);
        x.box(0, 1, 3);
        C.is("behind packing", x.isTrue(), true);
    }
}
