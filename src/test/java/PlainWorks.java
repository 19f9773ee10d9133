import java.util.ArrayList;
import java.util.List;
import java.util.NoSuchElementException;
import java.util.Set;
import java.util.TreeMap;
import java.util.TreeSet;

/** The document told once more, slowly and in another way, to be compared with Gatemark. */
final class PlainWorks {
    static final class R {
        int flow, shrinking, regrind, generations, water;
        boolean food;
        long brought, lost;
        List<int[]> waste = new ArrayList<>(); // grams, generation
    }

    static final class L {
        int resin, grams, water, generation;
    }

    static final class C {
        int grams, wall, circuit, cavity;
        char nozzle = '-';
        Set<Integer> beside = new TreeSet<>();
    }

    static final class T {
        int skill, force, warp, served, ever, on = -1;
        boolean slides, food;
        List<C> cells = new ArrayList<>();
        int[] flow = {5, 5, 5, 5};
        boolean[] blocked = new boolean[4];
        int[] nominal = {100000, 100000, 100000, 100000};
        int[] tolerance = {9999, 9999, 9999, 9999};
        List<List<Integer>> charts = List.of(new ArrayList<>(), new ArrayList<>(), new ArrayList<>(), new ArrayList<>());

        boolean has(int cavity) {
            return cells.stream().anyMatch(c -> c.cavity == cavity);
        }

        boolean open(int cell) {
            int cavity = cells.get(cell).cavity;
            return cavity == -1 || !blocked[cavity];
        }
    }

    static final class M {
        int force, shot, speed, screw, tool = -1, resin = -1, colour;
        int[] setting; // speed, pressure, ticks, number
        TreeMap<Integer, Integer> shares = new TreeMap<>();
        List<Integer> order = new ArrayList<>();
        boolean broken, inMould, forward, out, pressed, taken;
        Run last;
    }

    static final class Run {
        int machine, tool, resin, hour;
        int[] setting;
        TreeMap<Integer, Integer> lots = new TreeMap<>();
        int[] got, reached, from, froze, gained;
        int filling, length, welds, traps, notFull, total, generation;
    }

    static final class P {
        Run run;
        int cavity, grams, shrinking, warp, box = -1;
        boolean whole, measured, off, ground, mould = true;
    }

    final List<R> resins = new ArrayList<>();
    final List<L> lots = new ArrayList<>();
    final List<T> tools = new ArrayList<>();
    final List<M> machines = new ArrayList<>();
    final List<Integer> setters = new ArrayList<>();
    final List<P> parts = new ArrayList<>();
    final List<List<Integer>> boxes = new ArrayList<>();
    int told;
    int hour;

    private static <E> E at(List<E> list, int i) {
        if (i < 0 || i >= list.size()) {
            throw new IndexOutOfBoundsException();
        }
        return list.get(i);
    }

    private static void range(boolean... each) {
        for (boolean ok : each) {
            if (!ok) {
                throw new IllegalArgumentException();
            }
        }
    }

    private static void state(boolean ok) {
        if (!ok) {
            throw new IllegalStateException();
        }
    }

    private static void supported(boolean ok) {
        if (!ok) {
            throw new UnsupportedOperationException();
        }
    }

    private static void there(boolean ok) {
        if (!ok) {
            throw new NoSuchElementException();
        }
    }

    private static boolean in(int v, int a, int b) {
        return a <= v && v <= b;
    }

    long resin(int flow, int shrinking, int regrind, int generations, int water, boolean food) {
        range(in(flow, 1, 9), in(shrinking, 1, 50), in(regrind, 0, 100), in(generations, 0, 5), in(water, 0, 400));
        state(resins.size() < 6);
        R r = new R();
        r.flow = flow;
        r.shrinking = shrinking;
        r.regrind = regrind;
        r.generations = generations;
        r.water = water;
        r.food = food;
        resins.add(r);
        return resins.size() - 1;
    }

    private int newLot(int resin, int grams, int water, int generation) {
        state(lots.size() < 24);
        L l = new L();
        l.resin = resin;
        l.grams = grams;
        l.water = water;
        l.generation = generation;
        lots.add(l);
        return lots.size() - 1;
    }

    long lot(int resin, int grams, int water) {
        R r = at(resins, resin);
        range(in(grams, 1, 100000), in(water, 0, 400));
        long n = newLot(resin, grams, water, 0);
        r.brought += grams;
        return n;
    }

    long dry(int lot, int hours) {
        L l = at(lots, lot);
        range(in(hours, 1, 48));
        while (hours-- > 0) {
            l.water = (int) Math.floor(l.water * 0.75);
        }
        return l.water;
    }

    long grams(int lot) {
        return at(lots, lot).grams;
    }

    long water(int lot) {
        return at(lots, lot).water;
    }

    long generation(int lot) {
        return at(lots, lot).generation;
    }

    long waste(int resin) {
        return at(resins, resin).waste.stream().mapToInt(w -> w[0]).sum();
    }

    long grind(int resin) {
        R r = at(resins, resin);
        List<P> bad = parts.stream().filter(p -> p.run.resin == resin && !p.mould && !p.ground && bad(p)).toList();
        int grams = (int) waste(resin);
        int generation = 0;
        for (int[] w : r.waste) {
            generation = Math.max(generation, w[1]);
        }
        for (P p : bad) {
            grams += p.grams;
            generation = Math.max(generation, p.run.generation);
        }
        there(grams > 50);
        int lost = grams / 50;
        int n = newLot(resin, grams - lost, 0, generation + 1);
        r.lost += lost;
        r.waste.clear();
        bad.forEach(p -> p.ground = true);
        return n;
    }

    long tool(int skill, int force, boolean slides, boolean food, int warp) {
        range(in(skill, 0, 3), in(force, 1, 999), in(warp, 0, 9999));
        state(tools.size() < 6);
        T t = new T();
        t.skill = skill;
        t.force = force;
        t.slides = slides;
        t.food = food;
        t.warp = warp;
        C first = new C();
        first.grams = 2;
        first.wall = 5;
        first.cavity = -1;
        t.cells.add(first);
        tools.add(t);
        return tools.size() - 1;
    }

    long cell(int tool, int on, int grams, int wall, int circuit, int cavity) {
        T t = at(tools, tool);
        C below = at(t.cells, on);
        range(in(grams, 1, 50), in(wall, 1, 9), in(circuit, 0, 3), in(cavity, -1, 3));
        supported(t.ever == 0);
        state(t.cells.size() < 20);
        C c = new C();
        c.grams = grams;
        c.wall = wall;
        c.circuit = circuit;
        c.cavity = cavity;
        c.beside.add(on);
        below.beside.add(t.cells.size());
        t.cells.add(c);
        return t.cells.size() - 1;
    }

    long join(int tool, int cell, int other) {
        T t = at(tools, tool);
        C a = at(t.cells, cell);
        C b = at(t.cells, other);
        range(cell != other);
        supported(t.ever == 0);
        b.beside.add(cell);
        return a.beside.add(other) ? 1 : 0;
    }

    private T withCavity(int tool, int cavity) {
        T t = at(tools, tool);
        if (cavity < 0 || !t.has(cavity)) {
            throw new IndexOutOfBoundsException();
        }
        return t;
    }

    long block(int tool, int cavity, boolean is) {
        T t = withCavity(tool, cavity);
        boolean was = t.blocked[cavity];
        t.blocked[cavity] = is;
        return was ? 1 : 0;
    }

    long setFlow(int tool, int circuit, int flow) {
        T t = at(tools, tool);
        range(in(circuit, 0, 3), in(flow, 0, 9));
        int was = t.flow[circuit];
        t.flow[circuit] = flow;
        return was;
    }

    long setNozzle(int tool, int cell, char how) {
        C c = at(at(tools, tool).cells, cell);
        range("hf-".indexOf(how) >= 0);
        char was = c.nozzle;
        c.nozzle = how;
        return was;
    }

    long setNominal(int tool, int cavity, int size, int tolerance) {
        T t = withCavity(tool, cavity);
        range(in(size, 90000, 100000), in(tolerance, 0, 9999));
        int was = t.nominal[cavity];
        t.nominal[cavity] = size;
        t.tolerance[cavity] = tolerance;
        return was;
    }

    private static int freeze(T t, C c) {
        return (int) Math.ceil(c.wall * c.wall * 10.0 / (5 + t.flow[c.circuit]));
    }

    long freezing(int tool, int cell) {
        T t = at(tools, tool);
        return freeze(t, at(t.cells, cell));
    }

    long serve(int tool) {
        T t = at(tools, tool);
        state(t.on < 0);
        int was = t.served;
        t.served = 0;
        return was;
    }

    long machine(int force, int shot, int speed, int screw) {
        range(in(force, 1, 999), in(shot, 1, 2000), in(speed, 1, 99), in(screw, 10, 99));
        state(machines.size() < 4);
        M m = new M();
        m.force = force;
        m.shot = shot;
        m.speed = speed;
        m.screw = screw;
        machines.add(m);
        return machines.size() - 1;
    }

    long setting(int machine, int speed, int pressure, int ticks) {
        M m = at(machines, machine);
        range(in(speed, 1, m.speed), in(pressure, 0, 99), in(ticks, 0, 60));
        m.setting = new int[] {speed, pressure, ticks, told++};
        return told;
    }

    long copy(int machine, int to) {
        M a = at(machines, machine);
        M b = at(machines, to);
        there(a.setting != null);
        int speed = a.setting[0] * a.screw * a.screw / (b.screw * b.screw);
        speed = speed < 1 ? 1 : speed > b.speed ? b.speed : speed;
        b.setting = new int[] {speed, a.setting[1], a.setting[2], told++};
        return speed;
    }

    long setter(int skill) {
        range(in(skill, 0, 3));
        state(setters.size() < 9);
        setters.add(skill);
        return setters.size() - 1;
    }

    long mount(int machine, int tool, int setter) {
        M m = at(machines, machine);
        T t = at(tools, tool);
        int skill = at(setters, setter);
        supported(skill >= t.skill && t.force <= m.force && (t.on < 0 || t.on == machine));
        state(!m.inMould && !m.forward && !m.out);
        int was = m.tool;
        if (was >= 0) {
            tools.get(was).on = -1;
        }
        m.tool = tool;
        t.on = machine;
        return was;
    }

    private int purgeGrams(M m, int resin, int colour) {
        if (m.resin < 0) {
            return 20;
        }
        int steps = m.colour > colour ? m.colour - colour : 0;
        boolean food = resins.get(resin).food || m.tool >= 0 && tools.get(m.tool).food;
        return 20 + 30 * steps + (m.resin == resin ? 0 : 50) + (food && !resins.get(m.resin).food ? 200 : 0);
    }

    long purge(int machine, int lot, int colour) {
        M m = at(machines, machine);
        L l = at(lots, lot);
        range(in(colour, 0, 7));
        int grams = purgeGrams(m, l.resin, colour);
        state(l.grams >= grams && !m.inMould);
        l.grams -= grams;
        resins.get(l.resin).waste.add(new int[] {grams, l.generation});
        m.resin = l.resin;
        m.colour = colour;
        m.shares.clear();
        m.order.clear();
        return grams;
    }

    long purging(int machine, int resin, int colour) {
        M m = at(machines, machine);
        at(resins, resin);
        range(in(colour, 0, 7));
        return purgeGrams(m, resin, colour);
    }

    long feed(int machine, int lot, int share) {
        M m = at(machines, machine);
        L l = at(lots, lot);
        range(in(share, 0, 100));
        supported(m.resin == l.resin);
        if (share == 0) {
            m.order.remove((Integer) lot);
            m.shares.remove(lot);
        } else {
            if (!m.shares.containsKey(lot)) {
                state(m.order.size() < 4);
                m.order.add(lot);
            }
            m.shares.put(lot, share);
        }
        return sum(m);
    }

    static int sum(M m) {
        return m.shares.values().stream().mapToInt(x -> x).sum();
    }

    private List<Integer> openCavities(T t) {
        List<Integer> list = new ArrayList<>();
        for (int c = 0; c < 4; c++) {
            if (t.has(c) && !t.blocked[c]) {
                list.add(c);
            }
        }
        return list;
    }

    private Run melt(int machine) {
        M m = machines.get(machine);
        T t = tools.get(m.tool);
        R r = resins.get(m.resin);
        int n = t.cells.size();
        Run run = new Run();
        run.machine = machine;
        run.tool = m.tool;
        run.resin = m.resin;
        run.hour = hour;
        run.setting = m.setting;
        run.got = new int[n];
        run.reached = new int[n];
        run.from = new int[n];
        run.froze = new int[n];
        run.gained = new int[n];
        boolean[] frozen = new boolean[n];
        boolean gave = true;
        int tick = 0;
        while (gave) {
            tick++;
            gave = fillTick(t, r, run, frozen, tick);
            freezeAt(run, frozen, tick);
        }
        run.filling = tick;
        for (int h = 0; h < m.setting[2]; h++) {
            tick++;
            for (int c : pressed(t, run, frozen)) {
                run.gained[c] += m.setting[1];
            }
            freezeAt(run, frozen, tick);
        }
        boolean waits = true;
        while (waits) {
            waits = false;
            for (int c = 0; c < n; c++) {
                waits |= run.got[c] > 0 && !frozen[c] && t.cells.get(c).nozzle != 'h';
            }
            if (waits) {
                tick++;
                freezeAt(run, frozen, tick);
            }
        }
        int wall = 0;
        for (int c = 0; c < n; c++) {
            run.total += run.got[c];
            wall = run.got[c] > 0 ? Math.max(wall, t.cells.get(c).wall) : wall;
        }
        run.length = tick + wall;
        count(t, run);
        return run;
    }

    private static void freezeAt(Run run, boolean[] frozen, int tick) {
        for (int c = 0; c < frozen.length; c++) {
            frozen[c] |= run.froze[c] == tick;
        }
    }

    private static boolean full(T t, Run run, int c) {
        return run.got[c] == t.cells.get(c).grams;
    }

    private static boolean fillTick(T t, R r, Run run, boolean[] frozen, int tick) {
        List<Integer> front = new ArrayList<>();
        int[] source = new int[frozen.length];
        for (int c = 0; c < frozen.length; c++) {
            source[c] = -1;
            for (int o : t.cells.get(c).beside) {
                if (source[c] < 0 && full(t, run, o) && !frozen[o]) {
                    source[c] = o;
                }
            }
            if (t.open(c) && !full(t, run, c) && !frozen[c] && (c == 0 || source[c] >= 0)) {
                front.add(c);
            }
        }
        front.sort((a, b) -> t.cells.get(b).wall - t.cells.get(a).wall);
        int left = run.setting[0];
        boolean gave = false;
        for (int c : front) {
            C cell = t.cells.get(c);
            int take = Math.max(1, cell.wall * 2 - r.flow / 3);
            take = Math.min(Math.min(take, cell.grams - run.got[c]), left);
            if (take > 0) {
                gave = true;
                left -= take;
                if (run.got[c] == 0) {
                    run.reached[c] = tick;
                    run.from[c] = c == 0 ? -1 : source[c];
                    run.froze[c] = cell.nozzle == 'h' ? 0 : tick + freeze(t, cell);
                }
                run.got[c] += take;
            }
        }
        return gave;
    }

    private static Set<Integer> pressed(T t, Run run, boolean[] frozen) {
        Set<Integer> seen = new TreeSet<>();
        List<Integer> todo = new ArrayList<>(List.of(0));
        while (!todo.isEmpty()) {
            int c = todo.remove(0);
            if (full(t, run, c) && !frozen[c] && seen.add(c)) {
                todo.addAll(t.cells.get(c).beside);
            }
        }
        return seen;
    }

    private static void count(T t, Run run) {
        int n = t.cells.size();
        for (int a = 0; a < n; a++) {
            boolean open = t.open(a);
            boolean full = full(t, run, a);
            if (open && !full) {
                run.notFull++;
                List<Integer> around = t.cells.get(a).beside.stream().filter(t::open).toList();
                if (!around.isEmpty() && around.stream().allMatch(o -> full(t, run, o))) {
                    run.traps++;
                }
            }
            for (int b : t.cells.get(a).beside) {
                if (0 < a && a < b && full && full(t, run, b) && run.from[a] != b && run.from[b] != a) {
                    run.welds++;
                }
            }
        }
    }

    long shot(int machine) {
        M m = at(machines, machine);
        there(m.tool >= 0 && m.setting != null && m.resin >= 0);
        T t = tools.get(m.tool);
        R r = resins.get(m.resin);
        List<Integer> open = openCavities(t);
        there(!open.isEmpty());
        supported(sum(m) == 100);
        int regrind = 0;
        for (int l : m.order) {
            supported(lots.get(l).generation <= r.generations && lots.get(l).water <= r.water);
            regrind += lots.get(l).generation > 0 ? m.shares.get(l) : 0;
        }
        supported(regrind <= r.regrind);
        int need = 0;
        for (int c = 0; c < t.cells.size(); c++) {
            need += t.open(c) ? t.cells.get(c).grams : 0;
        }
        TreeMap<Integer, Integer> take = new TreeMap<>();
        int rest = need;
        for (int l : m.order) {
            take.put(l, need * m.shares.get(l) / 100);
            rest -= take.get(l);
        }
        take.merge(m.order.get(0), rest, Integer::sum);
        for (int l : m.order) {
            state(lots.get(l).grams >= take.get(l));
        }
        state(need <= m.shot && !m.inMould && !m.forward && !m.out && !m.broken && t.served < 50);
        state(parts.size() + open.size() <= 200);
        Run run = melt(machine);
        run.lots = take;
        take.forEach((l, g) -> lots.get(l).grams -= g);
        take.forEach((l, g) -> run.generation = Math.max(run.generation, g > 0 ? lots.get(l).generation : 0));
        int inParts = 0;
        for (int cavity : open) {
            P p = part(t, r, run, cavity);
            inParts += p.grams;
            parts.add(p);
        }
        r.waste.add(new int[] {need - inParts, run.generation});
        t.served++;
        t.ever++;
        m.last = run;
        m.inMould = true;
        m.pressed = true;
        m.taken = false;
        return run.length;
    }

    private static P part(T t, R r, Run run, int cavity) {
        P p = new P();
        p.run = run;
        p.cavity = cavity;
        p.whole = true;
        List<Integer> each = new ArrayList<>();
        for (int c = 0; c < t.cells.size(); c++) {
            if (t.cells.get(c).cavity == cavity) {
                p.grams += run.got[c];
                p.whole &= full(t, run, c);
                each.add(Math.max(0, r.shrinking * 100 - run.gained[c]));
            }
        }
        p.shrinking = each.stream().mapToInt(x -> x).sum() / each.size();
        p.warp = each.stream().mapToInt(x -> x).max().getAsInt() - each.stream().mapToInt(x -> x).min().getAsInt();
        return p;
    }

    long foresee(int machine) {
        M m = at(machines, machine);
        there(m.tool >= 0 && m.setting != null && m.resin >= 0);
        Run run = melt(machine);
        return run.traps > 0 ? 't' : run.notFull > 0 ? 's' : run.welds > 0 ? 'w' : '-';
    }

    long last(int machine, char what) {
        M m = at(machines, machine);
        int k = "lfwtng".indexOf(what);
        range(k >= 0);
        there(m.last != null);
        Run r = m.last;
        return new int[] {r.length, r.filling, r.welds, r.traps, r.notFull, r.total}[k];
    }

    long tickOf(int machine, int cell, boolean frozen) {
        M m = at(machines, machine);
        there(m.last != null);
        if (cell < 0 || cell >= m.last.got.length) {
            throw new IndexOutOfBoundsException();
        }
        int tick = frozen ? m.last.froze[cell] : m.last.reached[cell];
        there(tick > 0);
        return tick;
    }

    char next(M m) {
        if (!m.pressed) {
            return 's';
        }
        boolean slides = tools.get(m.tool).slides;
        if (!m.taken) {
            return slides && !m.out ? 'o' : m.forward ? 't' : 'f';
        }
        return m.forward ? 'b' : 'i';
    }

    long act(int machine, char what) {
        M m = at(machines, machine);
        range("oftbi".indexOf(what) >= 0);
        there(m.tool >= 0);
        supported(what == next(m));
        state(what != 't' || !m.broken);
        if (what == 'o') {
            m.out = true;
        } else if (what == 'f') {
            m.forward = true;
        } else if (what == 't') {
            m.inMould = false;
            m.taken = true;
            parts.stream().filter(p -> p.run == m.last).forEach(p -> p.mould = false);
        } else if (what == 'b') {
            m.forward = false;
        } else {
            m.out = false;
        }
        m.pressed = !m.taken || m.forward || m.out;
        return next(m);
    }

    long breakRobot(int machine, boolean is) {
        M m = at(machines, machine);
        boolean was = m.broken;
        m.broken = is;
        return was ? 1 : 0;
    }

    long pass(int hours) {
        range(in(hours, 1, 100));
        for (int h = 0; h < hours; h++) {
            hour++;
            for (L l : lots) {
                if (l.grams > 0 && l.water < 400) {
                    l.water++;
                }
            }
        }
        return hour;
    }

    long partOf(int part, char what) {
        P p = at(parts, part);
        int k = "mtchgswp".indexOf(what);
        range(k >= 0);
        return new int[] {p.run.machine, p.run.tool, p.cavity, p.run.hour, p.grams, p.shrinking, p.warp,
            p.run.setting[3]}[k];
    }

    long lotIn(int part, int lot) {
        P p = at(parts, part);
        at(lots, lot);
        return p.run.lots.getOrDefault(lot, 0);
    }

    long stateOf(int part) {
        P p = at(parts, part);
        return p.mould ? 'm' : p.ground ? 'g' : p.box >= 0 ? 'b' : 'o';
    }

    private int sizeNow(P p) {
        int quick = (int) Math.floor(p.shrinking * 0.75);
        int slow = p.shrinking - quick;
        int hours = Math.min(24, hour - p.run.hour);
        return 100000 - quick - slow * hours / 24;
    }

    long size(int part) {
        return sizeNow(at(parts, part));
    }

    private static boolean off(T t, int cavity, int size) {
        return size < t.nominal[cavity] - t.tolerance[cavity] || size > t.nominal[cavity] + t.tolerance[cavity];
    }

    long measure(int part) {
        P p = at(parts, part);
        supported(!p.measured && !p.mould && !p.ground && p.whole);
        state(hour - p.run.hour >= 24);
        T t = tools.get(p.run.tool);
        p.measured = true;
        p.off = off(t, p.cavity, sizeNow(p));
        t.charts.get(p.cavity).add(sizeNow(p));
        return p.off ? 0 : 1;
    }

    private boolean bad(P p) {
        return !p.whole || p.warp > tools.get(p.run.tool).warp || p.off;
    }

    long isBad(int part) {
        return bad(at(parts, part)) ? 1 : 0;
    }

    long points(int tool, int cavity) {
        return withCavity(tool, cavity).charts.get(cavity).size();
    }

    long warning(int tool, int cavity) {
        T t = withCavity(tool, cavity);
        List<Integer> chart = t.charts.get(cavity);
        for (int i = 0; i < chart.size(); i++) {
            boolean rise = i >= 4;
            boolean fall = i >= 4;
            for (int k = Math.max(1, i - 3); k <= i; k++) {
                rise &= chart.get(k) > chart.get(k - 1);
                fall &= chart.get(k) < chart.get(k - 1);
            }
            if (off(t, cavity, chart.get(i)) || rise || fall) {
                return i;
            }
        }
        throw new NoSuchElementException();
    }

    long box(int tool, int cavities, int each) {
        T t = at(tools, tool);
        boolean asked = false;
        for (int c = 0; c < 32; c++) {
            if ((cavities >>> c & 1) == 1) {
                asked = true;
                withCavity(tool, c);
            }
        }
        if (!asked) {
            throw new IndexOutOfBoundsException();
        }
        range(in(each, 1, 9));
        List<Integer> packed = new ArrayList<>();
        for (int c = 0; c < 4; c++) {
            if ((cavities >> c & 1) == 1) {
                List<Integer> fit = new ArrayList<>();
                for (int i = 0; i < parts.size(); i++) {
                    P p = parts.get(i);
                    if (tools.get(p.run.tool) == t && p.cavity == c && !bad(p) && hour - p.run.hour >= 24
                            && !p.mould && p.box < 0 && !p.ground && fit.size() < each) {
                        fit.add(i);
                    }
                }
                there(fit.size() == each);
                packed.addAll(fit);
            }
        }
        state(boxes.size() < 20);
        packed.forEach(i -> parts.get(i).box = boxes.size());
        boxes.add(packed);
        return boxes.size() - 1;
    }

    long inBox(int box, int index) {
        return at(at(boxes, box), index);
    }

    long cause(int tool) {
        at(tools, tool);
        List<P> out = parts.stream().filter(p -> p.run.tool == tool && !p.mould).toList();
        there(out.stream().anyMatch(this::bad));
        for (int k = 100; k < 300 + told; k++) {
            int sought = k;
            if (out.stream().allMatch(p -> bad(p) == has(p, sought))) {
                return k;
            }
        }
        throw new NoSuchElementException();
    }

    private static boolean has(P p, int k) {
        return k < 200 ? p.cavity == k - 100
            : k < 300 ? p.run.lots.getOrDefault(k - 200, 0) > 0
            : p.run.setting[3] == k - 300;
    }

    long parts() {
        return parts.size();
    }

    long brought(int resin) {
        return at(resins, resin).brought;
    }

    long lost(int resin) {
        return at(resins, resin).lost;
    }

    double badShare() {
        if (parts.isEmpty()) {
            throw new ArithmeticException();
        }
        return (float) parts.stream().filter(this::bad).count() / (float) parts.size();
    }

    double meanShrinking() {
        if (parts.isEmpty()) {
            throw new ArithmeticException();
        }
        return (double) parts.stream().mapToLong(p -> p.shrinking).sum() / (double) parts.size();
    }
}
