import java.util.ArrayList;
import java.util.List;

/** Calls that show all of a works: what can be looked at, and what only shows as something is changed. */
final class Probe {
    private final List<List<Script.Step>> all = new ArrayList<>();
    private final int most;
    private final int resins;
    private final int lots;
    private final int tools;
    private final int machines;
    private final int setters;
    private final int boxes;
    private final int[] cells;
    private final List<Integer> parts = new ArrayList<>();

    /** Runs of calls, each for an object of its own that was called just so, with no more than most calls. */
    static List<List<Script.Step>> of(List<Script.Step> calls, int most) {
        Probe p = new Probe(calls, most);
        p.looks();
        p.changes();
        return p.all;
    }

    private Probe(List<Script.Step> calls, int most) {
        this.most = most;
        resins = count(calls, "resin");
        lots = count(calls, "lot") + count(calls, "grind");
        tools = count(calls, "tool");
        machines = count(calls, "machine");
        setters = count(calls, "setter");
        boxes = count(calls, "box");
        cells = new int[tools];
        for (int t = 0; t < tools; t++) {
            int tool = t;
            cells[t] = 1 + (int) calls.stream().filter(s -> s.name().equals("cell") && s.args()[0].equals(tool)).count();
        }
        Gatemark x = new Gatemark();
        calls.forEach(s -> Script.outcome(x, s));
        for (int i = 0; i < x.parts(); i++) {
            if (i < 4 || i >= x.parts() - 4) {
                parts.add(i);
            }
        }
    }

    private static int count(List<Script.Step> calls, String name) {
        return (int) calls.stream().filter(s -> s.name().equals(name)).count();
    }

    private void add(String lines) {
        List<Script.Step> steps = Script.parse(lines.replace(';', '\n'));
        if (!steps.isEmpty() && most > 0) {
            all.add(steps.subList(0, Math.min(most, steps.size())));
        }
    }

    /** What only looks can be parted as one likes. */
    private void addLooks(String lines) {
        List<Script.Step> steps = Script.parse(lines.replace(';', '\n'));
        for (int i = 0; i < steps.size() && most > 0; i += most) {
            all.add(steps.subList(i, Math.min(i + most, steps.size())));
        }
    }

    private interface Numbered {
        String of(int number);
    }

    private static String each(int count, Numbered lines) {
        StringBuilder s = new StringBuilder();
        for (int i = 0; i < count; i++) {
            s.append(lines.of(i)).append(';');
        }
        return s.toString();
    }

    private String eachPart(Numbered lines) {
        return each(parts.size(), i -> lines.of(parts.get(i)));
    }

    private String looksAtLots() {
        return each(lots, l -> "grams " + l + ";water " + l + ";generation " + l)
            + each(resins, r -> "waste " + r + ";brought " + r + ";lost " + r);
    }

    private String looksAtParts() {
        return "parts;badShare;meanShrinking;isTrue;"
            + eachPart(p -> "stateOf " + p + ";size " + p + ";isBad " + p)
            + each(tools, t -> "cause " + t + ";" + each(4, c -> "points " + t + " " + c + ";warning " + t + " " + c));
    }

    private void looks() {
        addLooks(looksAtLots() + looksAtParts());
        addLooks(eachPart(p -> each(8, i -> "partOf " + p + " " + "mtchgswp".charAt(i)) + each(lots, l -> "lotIn " + p + " " + l)));
        addLooks(each(tools, t -> each(cells[t], c -> "freezing " + t + " " + c)) + each(boxes, b -> each(5, i -> "inBox " + b + " " + i)));
        addLooks(each(machines, m -> "foresee " + m + ";" + each(6, i -> "last " + m + " " + "lfwtng".charAt(i))
            + each(21, c -> "tickOf " + m + " " + c + " true;tickOf " + m + " " + c + " false")
            + each(resins, r -> "purging " + m + " " + r + " 0;purging " + m + " " + r + " 7")));
    }

    private void changes() {
        add("resin 1 1 0 0 0 false;tool 0 1 false false 0;machine 1 1 1 10;setter 0;lot 0 1 0;grams " + lots);
        add("pass 1;" + looksAtLots() + looksAtParts());
        add("pass 24;" + eachPart(p -> "measure " + p) + looksAtParts()
            + each(tools, t -> each(4, c -> "box " + t + " " + (1 << c) + " 1")) + "inBox " + boxes + " 0");
        add(each(tools, t -> each(4, c -> "box " + t + " " + (1 << c) + " 1")));
        add(eachPart(p -> "measure " + p));
        for (int i = 0; i < resins; i++) {
            add("grind " + i + ";grams " + lots + ";generation " + lots + ";water " + lots + ";" + looksAtLots());
        }
        for (int i = 0; i < tools; i++) {
            changesOfTool(i);
        }
        for (int i = 0; i < machines; i++) {
            changesOfMachine(i);
        }
    }

    private void changesOfTool(int t) {
        add("cell " + t + " 0 1 1 0 -1;serve " + t + ";" + each(Math.min(cells[t], 6), a -> each(a, b -> "join " + t + " " + b + " " + a)));
        add(each(4, c -> "block " + t + " " + c + " true;setNominal " + t + " " + c + " 95000 1"
            + ";setNominal " + t + " " + c + " 95000 1;setFlow " + t + " " + c + " 1")
            + each(cells[t], c -> "setNozzle " + t + " " + c + " h"));
    }

    private void changesOfMachine(int m) {
        String acts = each(5, i -> "act " + m + " " + "oftbi".charAt(i));
        String shot = "shot " + m + ";last " + m + " l;last " + m + " g;parts;";
        add(acts + shot + looksAtLots());
        add(shot + acts + looksAtLots());
        add("breakRobot " + m + " false;" + acts + shot);
        add("setting " + m + " 1 7 7;" + shot + looksAtLots());
        add("copy " + m + " " + m + ";setting " + m + " 1 0 0");
        add(each(lots, l -> "feed " + m + " " + l + " 0"));
        add(each(lots, l -> "feed " + m + " " + l + " 1") + shot);
        add(each(lots, l -> "purge " + m + " " + l + " 3") + looksAtLots());
        for (int t = 0; t < tools; t++) {
            int tool = t;
            add(each(setters, s -> "mount " + m + " " + tool + " " + s) + shot);
        }
    }
}
