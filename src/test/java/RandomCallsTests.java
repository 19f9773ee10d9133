import java.util.Map;
import java.util.Random;
import java.util.TreeMap;

/** Long random runs: each answer, each exception and the whole state compared with PlainWorks. */
public final class RandomCallsTests {
    interface Asked {
        double of(Gatemark x);
    }

    interface Due {
        double of(PlainWorks y);
    }

    private static final Check CHECK = new Check("random calls");
    private static final Map<String, int[]> SEEN = new TreeMap<>();
    private static final int[] WILD = {Integer.MIN_VALUE, Integer.MAX_VALUE, -1, 1000, 1 << 16, -100};

    private final Random random;
    private final Gatemark x = new Gatemark();
    private final PlainWorks y = new PlainWorks();
    private final boolean watchesState;
    private final int wildness;
    private int calls;

    private RandomCallsTests(long seed, int wildness, boolean watchesState) {
        random = new Random(seed);
        this.wildness = wildness;
        this.watchesState = watchesState;
    }

    public static void main(String[] args) {
        for (int seed = 0; seed < 600; seed++) {
            new RandomCallsTests(seed, seed % 5 == 0 ? 25 : 2, seed % 20 < 2).run(512);
        }
        for (int seed = 0; seed < 100; seed++) {
            new RandomCallsTests(seed, 100, true).run(100);
        }
        SEEN.forEach((name, n) -> System.out.println(name + ": " + n[0] + " answered, " + n[1] + " threw"));
        SEEN.forEach((name, n) -> CHECK.is(name + " was answered and threw",
            n[0] > 0 && (n[1] > 0 || name.equals("parts") || name.equals("isTrue")), true));
        CHECK.end();
    }

    private static String outcome(Asked asked, Gatemark x) {
        try {
            return String.valueOf(asked.of(x));
        } catch (RuntimeException e) {
            return e.getClass().getSimpleName();
        }
    }

    private static String outcome(Due due, PlainWorks y) {
        try {
            return String.valueOf(due.of(y));
        } catch (RuntimeException e) {
            return e.getClass().getSimpleName();
        }
    }

    private void call(String name, String args, Asked asked, Due due) {
        calls++;
        String before = watchesState ? state() : "";
        String got = outcome(asked, x);
        String want = outcome(due, y);
        CHECK.is("call " + calls + " " + name + "(" + args + ")", got, want);
        boolean threw = want.endsWith("Exception");
        SEEN.computeIfAbsent(name, n -> new int[2])[threw ? 1 : 0]++;
        if (threw && watchesState) {
            CHECK.is("the state behind " + name + "(" + args + ")", state(), before);
        }
    }

    private String state() {
        StringBuilder all = new StringBuilder();
        readWorks((a, d) -> all.append(outcome(a, x)).append(' '));
        readParts((a, d) -> all.append(outcome(a, x)).append(' '));
        return all.toString();
    }

    interface Reader {
        void read(Asked asked, Due due);
    }

    private void readWorks(Reader r) {
        for (int i = 0; i < y.resins.size(); i++) {
            int n = i;
            r.read(g -> g.waste(n), p -> p.waste(n));
            r.read(g -> g.brought(n), p -> p.brought(n));
            r.read(g -> g.lost(n), p -> p.lost(n));
        }
        for (int i = 0; i < y.lots.size(); i++) {
            int n = i;
            r.read(g -> g.grams(n), p -> p.grams(n));
            r.read(g -> g.water(n), p -> p.water(n));
            r.read(g -> g.generation(n), p -> p.generation(n));
        }
        for (int i = 0; i < y.tools.size(); i++) {
            int n = i;
            r.read(g -> g.cause(n), p -> p.cause(n));
            for (int j = 0; j < y.tools.get(i).cells.size(); j++) {
                int c = j;
                r.read(g -> g.freezing(n, c), p -> p.freezing(n, c));
            }
            for (int j = 0; j < 4; j++) {
                int c = j;
                r.read(g -> g.points(n, c), p -> p.points(n, c));
                r.read(g -> g.warning(n, c), p -> p.warning(n, c));
            }
        }
        for (int i = 0; i < y.machines.size(); i++) {
            readMachine(r, i);
        }
    }

    private void readMachine(Reader r, int n) {
        r.read(g -> g.foresee(n), p -> p.foresee(n));
        for (char what : "lfwtng".toCharArray()) {
            r.read(g -> g.last(n, what), p -> p.last(n, what));
        }
        for (int j = 0; j < 20; j++) {
            int c = j;
            r.read(g -> g.tickOf(n, c, false), p -> p.tickOf(n, c, false));
            r.read(g -> g.tickOf(n, c, true), p -> p.tickOf(n, c, true));
        }
        for (int i = 0; i < y.resins.size(); i++) {
            int resin = i;
            r.read(g -> g.purging(n, resin, 3), p -> p.purging(n, resin, 3));
        }
    }

    private void readParts(Reader r) {
        for (int i = 0; i < y.parts.size(); i++) {
            int n = i;
            for (char what : "mtchgswp".toCharArray()) {
                r.read(g -> g.partOf(n, what), p -> p.partOf(n, what));
            }
            r.read(g -> g.stateOf(n), p -> p.stateOf(n));
            r.read(g -> g.size(n), p -> p.size(n));
            r.read(g -> g.isBad(n) ? 1 : 0, p -> p.isBad(n));
            for (int j = 0; j < y.lots.size(); j++) {
                int lot = j;
                r.read(g -> g.lotIn(n, lot), p -> p.lotIn(n, lot));
            }
        }
        for (int i = 0; i < y.boxes.size(); i++) {
            int n = i;
            for (int j = 0; j < 37; j++) {
                int k = j;
                r.read(g -> g.inBox(n, k), p -> p.inBox(n, k));
            }
        }
        r.read(g -> g.parts(), p -> p.parts());
        r.read(g -> g.badShare(), p -> p.badShare());
        r.read(g -> g.meanShrinking(), p -> p.meanShrinking());
    }

    private void run(int most) {
        setUp();
        while (calls < most) {
            step();
            if (calls % 64 == 0) {
                compareState();
            }
        }
        compareState();
    }

    private void compareState() {
        Reader both = (a, d) -> {
            String got = outcome(a, x);
            String want = outcome(d, y);
            if (!got.equals(want)) {
                CHECK.is("the state behind call " + calls, got, want);
            }
        };
        readWorks(both);
        readParts(both);
        CHECK.is("isTrue behind call " + calls, x.isTrue(), true);
    }

    // ---- what is drawn

    private boolean chance(int hundredths) {
        return random.nextInt(100) < hundredths;
    }

    private int wild() {
        return WILD[random.nextInt(WILD.length)];
    }

    private int value(int least, int most) {
        if (chance(wildness)) {
            return chance(50) ? wild() : chance(50) ? least - 1 : most + 1;
        }
        if (chance(10)) {
            return chance(50) ? least : most;
        }
        return least + random.nextInt(most - least + 1);
    }

    private int one(int count) {
        if (count == 0 || chance(wildness)) {
            return chance(50) ? wild() : count;
        }
        return random.nextInt(count);
    }

    private char sign(String signs) {
        return chance(wildness) ? (char) random.nextInt(256) : signs.charAt(random.nextInt(signs.length()));
    }

    private int aMachine() {
        return one(y.machines.size());
    }

    private int aTool() {
        return one(y.tools.size());
    }

    private int aCell(int tool) {
        return one(tool >= 0 && tool < y.tools.size() ? y.tools.get(tool).cells.size() : 3);
    }

    private int aPart() {
        int n = y.parts.size();
        return n > 6 && chance(50) ? n - 1 - random.nextInt(6) : one(n);
    }

    // ---- what is called

    private void setUp() {
        int resins = 1 + random.nextInt(3);
        for (int i = 0; i < resins; i++) {
            addResin();
        }
        for (int i = 0; i < resins * 3; i++) {
            addLot();
        }
        int tools = 1 + random.nextInt(3);
        for (int i = 0; i < tools; i++) {
            addTool();
            int cells = 1 + random.nextInt(chance(20) ? 19 : 8);
            for (int j = 0; j < cells; j++) {
                addCell(i);
            }
            for (int j = random.nextInt(4); j > 0; j--) {
                addJoin(i);
            }
        }
        int machines = 1 + random.nextInt(2);
        for (int i = 0; i < machines; i++) {
            addMachine();
            addSetter();
            tellSetting(i);
            mount(i, i);
        }
    }

    private void addResin() {
        int a = value(1, 9), b = value(1, 50), c = value(0, 100), d = value(0, 5), e = value(0, 400);
        boolean f = chance(30);
        call("resin", a + "," + b + "," + c + "," + d + "," + e + "," + f,
            g -> g.resin(a, b, c, d, e, f), p -> p.resin(a, b, c, d, e, f));
    }

    private void addLot() {
        int a = one(y.resins.size()), b = chance(60) ? value(1, 5000) : value(1, 100000), c = value(0, chance(80) ? 60 : 400);
        call("lot", a + "," + b + "," + c, g -> g.lot(a, b, c), p -> p.lot(a, b, c));
    }

    private void addTool() {
        int a = value(0, 3), b = chance(70) ? value(1, 200) : value(1, 999);
        int e = chance(40) ? 9999 : value(0, chance(50) ? 9999 : 600);
        boolean c = chance(50), d = chance(20);
        call("tool", a + "," + b + "," + c + "," + d + "," + e,
            g -> g.tool(a, b, c, d, e), p -> p.tool(a, b, c, d, e));
    }

    private void addCell(int tool) {
        int on = aCell(tool), grams = value(1, chance(70) ? 12 : 50), wall = value(1, 9);
        int circuit = value(0, 3), cavity = value(-1, 3);
        call("cell", tool + "," + on + "," + grams + "," + wall + "," + circuit + "," + cavity,
            g -> g.cell(tool, on, grams, wall, circuit, cavity), p -> p.cell(tool, on, grams, wall, circuit, cavity));
    }

    private void addJoin(int tool) {
        int a = aCell(tool), b = aCell(tool);
        call("join", tool + "," + a + "," + b, g -> g.join(tool, a, b) ? 1 : 0, p -> p.join(tool, a, b));
    }

    private void addMachine() {
        int a = chance(70) ? 999 : value(1, 999), b = chance(70) ? 2000 : value(1, 2000), c = value(1, 99), d = value(10, 99);
        call("machine", a + "," + b + "," + c + "," + d, g -> g.machine(a, b, c, d), p -> p.machine(a, b, c, d));
    }

    private void addSetter() {
        int a = chance(60) ? 3 : value(0, 3);
        call("setter", "" + a, g -> g.setter(a), p -> p.setter(a));
    }

    private void tellSetting(int m) {
        int most = m >= 0 && m < y.machines.size() ? y.machines.get(m).speed : 99;
        int a = value(1, most), b = value(0, 99), c = value(0, 60);
        call("setting", m + "," + a + "," + b + "," + c, g -> g.setting(m, a, b, c), p -> p.setting(m, a, b, c));
    }

    private void mount(int m, int t) {
        int s = one(y.setters.size());
        call("mount", m + "," + t + "," + s, g -> g.mount(m, t, s), p -> p.mount(m, t, s));
    }

    private void purge(int m) {
        int l = one(y.lots.size()), c = value(0, 7);
        call("purge", m + "," + l + "," + c, g -> g.purge(m, l, c), p -> p.purge(m, l, c));
    }

    private void feed(int m) {
        boolean isThere = m >= 0 && m < y.machines.size();
        int rest = isThere ? 100 - PlainWorks.sum(y.machines.get(m)) : 50;
        int l = one(y.lots.size());
        for (int i = 0; i < 6 && isThere && chance(90) && l >= 0 && l < y.lots.size()
                && y.lots.get(l).resin != y.machines.get(m).resin; i++) {
            l = one(y.lots.size());
        }
        int lot = l;
        int share = chance(70) && rest > 0 ? chance(60) ? rest : 1 + random.nextInt(rest) : chance(40) ? 0 : value(0, 100);
        call("feed", m + "," + lot + "," + share, g -> g.feed(m, lot, share), p -> p.feed(m, lot, share));
    }

    private void act(int m, char what) {
        call("act", m + "," + what, g -> g.act(m, what), p -> p.act(m, what));
    }

    /** Mends most of what would refuse a shot, so that runs get far. */
    private void ready(int number) {
        PlainWorks.M m = y.machines.get(number);
        if (m.broken) {
            call("breakRobot", number + ",false", g -> g.breakRobot(number, false) ? 1 : 0, p -> p.breakRobot(number, false));
        }
        for (int i = 0; i < 5 && m.pressed; i++) {
            act(number, y.next(m));
        }
        if (m.tool < 0) {
            mount(number, aTool());
        } else if (y.tools.get(m.tool).served >= 50) {
            swapToServe(number, m.tool);
        }
        if (m.setting == null) {
            tellSetting(number);
        }
        if (m.resin < 0) {
            purge(number);
        }
        clean(number, m);
        for (int i = 0; i < 3 && PlainWorks.sum(m) != 100; i++) {
            feed(number);
        }
    }

    private void swapToServe(int m, int tool) {
        for (int t = 0; t < y.tools.size() && y.machines.get(m).tool == tool; t++) {
            if (t != tool) {
                mount(m, t);
            }
        }
        call("serve", "" + tool, g -> g.serve(tool), p -> p.serve(tool));
        mount(m, tool);
    }

    private void clean(int number, PlainWorks.M m) {
        for (int l : m.order.toArray(new Integer[0])) {
            PlainWorks.L lot = y.lots.get(l);
            PlainWorks.R r = y.resins.get(lot.resin);
            if (lot.generation > r.generations || lot.grams < 100 || PlainWorks.sum(m) > 100 || chance(5)) {
                call("feed", number + "," + l + ",0", g -> g.feed(number, l, 0), p -> p.feed(number, l, 0));
            } else if (lot.water > r.water) {
                call("dry", l + ",20", g -> g.dry(l, 20), p -> p.dry(l, 20));
            }
        }
    }

    private void press(int m) {
        if (m >= 0 && m < y.machines.size() && chance(85)) {
            ready(m);
        }
        call("shot", "" + m, g -> g.shot(m), p -> p.shot(m));
        for (int i = 0; i < 5 && m >= 0 && m < y.machines.size() && chance(95); i++) {
            char next = y.next(y.machines.get(m));
            if (next != 's') {
                act(m, chance(4) ? sign("oftbi") : next);
            }
        }
    }

    private void step() {
        int k = random.nextInt(100);
        int m = chance(90) ? Math.min(1, y.machines.size() - 1) : aMachine();
        int t = aTool();
        if (k < 34) {
            press(chance(50) ? 0 : m);
        } else if (k < 36) {
            feed(m);
        } else if (k < 38) {
            purge(m);
        } else if (k < 42) {
            tellOrCopy(m);
        } else if (k < 44) {
            mount(m, t);
        } else if (k < 51) {
            pass();
        } else if (k < 68) {
            measure();
        } else if (k < 82) {
            changeTool(t);
        } else if (k < 88) {
            grindOrDry();
        } else if (k < 93) {
            box(t);
        } else {
            addOrLook(m, t);
        }
    }

    private void tellOrCopy(int m) {
        if (chance(60)) {
            tellSetting(m);
        } else {
            int to = aMachine();
            call("copy", m + "," + to, g -> g.copy(m, to), p -> p.copy(m, to));
        }
    }

    private void pass() {
        int h = chance(40) ? 24 : value(1, chance(70) ? 30 : 100);
        call("pass", "" + h, g -> g.pass(h), p -> p.pass(h));
    }

    private void measure() {
        int n = aPart();
        call("measure", "" + n, g -> g.measure(n) ? 1 : 0, p -> p.measure(n));
    }

    private void changeTool(int t) {
        int c = value(0, 3);
        switch (random.nextInt(7)) {
            case 0 -> {
                boolean is = chance(40);
                call("block", t + "," + c + "," + is, g -> g.block(t, c, is) ? 1 : 0, p -> p.block(t, c, is));
            }
            case 1 -> {
                int flow = value(0, 9);
                call("setFlow", t + "," + c + "," + flow, g -> g.setFlow(t, c, flow), p -> p.setFlow(t, c, flow));
            }
            case 2 -> {
                int cell = aCell(t);
                char how = sign("hhf-");
                call("setNozzle", t + "," + cell + "," + how, g -> g.setNozzle(t, cell, how), p -> p.setNozzle(t, cell, how));
            }
            case 3, 4 -> {
                int size = chance(70) ? value(96000, 100000) : value(90000, 100000), off = chance(70) ? value(0, 4000) : 9999;
                call("setNominal", t + "," + c + "," + size + "," + off,
                    g -> g.setNominal(t, c, size, off), p -> p.setNominal(t, c, size, off));
            }
            case 5 -> call("serve", "" + t, g -> g.serve(t), p -> p.serve(t));
            default -> call("cause", "" + t, g -> g.cause(t), p -> p.cause(t));
        }
    }

    private void grindOrDry() {
        int r = one(y.resins.size());
        int l = one(y.lots.size());
        int h = value(1, 48);
        if (chance(50)) {
            call("grind", "" + r, g -> g.grind(r), p -> p.grind(r));
        } else {
            call("dry", l + "," + h, g -> g.dry(l, h), p -> p.dry(l, h));
        }
    }

    private void box(int t) {
        boolean isOne = chance(60);
        int cavities = isOne ? 1 << random.nextInt(4) : value(0, 16);
        int each = chance(70) ? 1 : value(1, 9);
        call("box", t + "," + cavities + "," + each, g -> g.box(t, cavities, each), p -> p.box(t, cavities, each));
    }

    private void addOrLook(int m, int t) {
        switch (random.nextInt(16)) {
            case 0 -> addResin();
            case 1 -> addLot();
            case 2 -> addTool();
            case 3, 4 -> addCell(t);
            case 5 -> addJoin(t);
            case 6 -> addMachine();
            case 7 -> addSetter();
            case 8, 9 -> {
                boolean is = chance(40);
                call("breakRobot", m + "," + is, g -> g.breakRobot(m, is) ? 1 : 0, p -> p.breakRobot(m, is));
            }
            case 10 -> act(m, sign("oftbi"));
            case 11 -> feed(m);
            default -> look(m, t);
        }
    }

    private void look(int m, int t) {
        int n = aPart();
        int r = one(y.resins.size());
        int l = one(y.lots.size());
        int c = value(0, 7);
        switch (random.nextInt(16)) {
            case 0 -> call("grams", "" + l, g -> g.grams(l), p -> p.grams(l));
            case 1 -> call("water", "" + l, g -> g.water(l), p -> p.water(l));
            case 2 -> call("generation", "" + l, g -> g.generation(l), p -> p.generation(l));
            case 3 -> call("waste", "" + r, g -> g.waste(r), p -> p.waste(r));
            case 4 -> call("purging", m + "," + r + "," + c, g -> g.purging(m, r, c), p -> p.purging(m, r, c));
            case 5 -> call("foresee", "" + m, g -> g.foresee(m), p -> p.foresee(m));
            case 6 -> {
                char w = sign("lfwtng");
                call("last", m + "," + w, g -> g.last(m, w), p -> p.last(m, w));
            }
            case 7 -> call("tickOf", m + "," + c, g -> g.tickOf(m, c, l % 2 == 0), p -> p.tickOf(m, c, l % 2 == 0));
            case 8 -> {
                char w = sign("mtchgswp");
                call("partOf", n + "," + w, g -> g.partOf(n, w), p -> p.partOf(n, w));
            }
            case 9 -> call("lotIn", n + "," + l, g -> g.lotIn(n, l), p -> p.lotIn(n, l));
            case 10 -> call("stateOf", "" + n, g -> g.stateOf(n), p -> p.stateOf(n));
            case 11 -> call("size", "" + n, g -> g.size(n), p -> p.size(n));
            case 12 -> call("isBad", "" + n, g -> g.isBad(n) ? 1 : 0, p -> p.isBad(n));
            case 13 -> {
                int cavity = value(0, 3);
                call("points", t + "," + cavity, g -> g.points(t, cavity), p -> p.points(t, cavity));
                call("warning", t + "," + cavity, g -> g.warning(t, cavity), p -> p.warning(t, cavity));
            }
            case 14 -> {
                int b = one(y.boxes.size());
                call("inBox", b + "," + c, g -> g.inBox(b, c), p -> p.inBox(b, c));
            }
            default -> lookAtAll(r, m, t);
        }
    }

    private void lookAtAll(int r, int m, int t) {
        int cell = aCell(t);
        call("brought", "" + r, g -> g.brought(r), p -> p.brought(r));
        call("lost", "" + r, g -> g.lost(r), p -> p.lost(r));
        call("freezing", t + "," + cell, g -> g.freezing(t, cell), p -> p.freezing(t, cell));
        call("parts", "", g -> g.parts(), p -> p.parts());
        call("badShare", "", g -> g.badShare(), p -> p.badShare());
        call("meanShrinking", "", g -> g.meanShrinking(), p -> p.meanShrinking());
        call("isTrue", "", g -> g.isTrue() ? 1 : 0, p -> 1);
    }
}
