import java.util.NoSuchElementException;

/** A works that presses plastics into moulds, as ../shared/DOC.md promises it. */
public final class Gatemark {
    private static final int MOST_RESINS = 6;
    private static final int MOST_LOTS = 24;
    private static final int MOST_TOOLS = 6;
    private static final int MOST_CELLS = 20;
    private static final int CAVITIES = 4;
    private static final int CIRCUITS = 4;
    private static final int MOST_MACHINES = 4;
    private static final int MOST_SETTERS = 9;
    private static final int MOST_FED = 4;
    private static final int MOST_PARTS = 200;
    private static final int MOST_BOXES = 20;
    private static final int MOST_WATER = 400;
    private static final int SHOTS_TO_SERVICE = 50;
    private static final int HOURS_TO_SETTLE = 24;
    private static final int TREND = 4;
    private static final int FULL_SIZE = 100000;

    private final Resin[] resins;
    private final Lot[] lots;
    private final Tool[] tools;
    private final Machine[] machines;
    private final int[] setters;
    private final Part[] parts;
    private final Part[] measured;
    private final Melt trial;
    private int resinCount;
    private int lotCount;
    private int toolCount;
    private int machineCount;
    private int setterCount;
    private int settingCount;
    private int partCount;
    private int measuredCount;
    private int boxCount;
    private int hour;

    public Gatemark() {
        resins = new Resin[MOST_RESINS];
        lots = new Lot[MOST_LOTS];
        tools = new Tool[MOST_TOOLS];
        machines = new Machine[MOST_MACHINES];
        setters = new int[MOST_SETTERS];
        parts = new Part[MOST_PARTS];
        measured = new Part[MOST_PARTS];
        trial = new Melt();
    }

    // ---- resins and lots

    public int resin(int flow, int shrinking, int regrind, int generations, int water, boolean isFood)
            throws IllegalArgumentException, IllegalStateException {
        requireRange(flow, 1, 9);
        requireRange(shrinking, 1, 50);
        requireRange(regrind, 0, 100);
        requireRange(generations, 0, 5);
        requireRange(water, 0, MOST_WATER);
        requireRoom(resinCount, MOST_RESINS);
        resins[resinCount] = new Resin(flow, shrinking, regrind, generations, water, isFood);
        resinCount++;
        return resinCount - 1;
    }

    public int lot(int resin, int grams, int water)
            throws IndexOutOfBoundsException, IllegalArgumentException, IllegalStateException {
        Resin r = resinAt(resin);
        requireRange(grams, 1, 100000);
        requireRange(water, 0, MOST_WATER);
        int number = addLot(r, grams, water, 0);
        r.brought += grams;
        return number;
    }

    public int dry(int lot, int hours) throws IndexOutOfBoundsException, IllegalArgumentException {
        Lot l = lotAt(lot);
        requireRange(hours, 1, 48);
        for (int i = 0; i < hours; i++) {
            l.water = l.water * 3 / 4;
        }
        return l.water;
    }

    public int grams(int lot) throws IndexOutOfBoundsException {
        return lotAt(lot).grams;
    }

    public int water(int lot) throws IndexOutOfBoundsException {
        return lotAt(lot).water;
    }

    public int generation(int lot) throws IndexOutOfBoundsException {
        return lotAt(lot).generation;
    }

    public int waste(int resin) throws IndexOutOfBoundsException {
        return resinAt(resin).waste;
    }

    public int grind(int resin)
            throws IndexOutOfBoundsException, NoSuchElementException, IllegalStateException {
        Resin r = resinAt(resin);
        int grams = r.waste;
        int generation = r.wasteGeneration;
        for (int i = 0; i < partCount; i++) {
            Part p = parts[i];
            if (isToGrind(p, r)) {
                grams += p.grams;
                generation = Math.max(generation, p.shot.greatestGeneration());
            }
        }
        if (grams <= 50) {
            throw new NoSuchElementException("not more than 50 grams to grind");
        }
        int number = addLot(r, grams - grams / 50, 0, generation + 1);
        markGround(r);
        r.waste = 0;
        r.wasteGeneration = 0;
        r.lost += grams / 50;
        return number;
    }

    // ---- tools

    public int tool(int skill, int force, boolean hasSlides, boolean isFood, int warp)
            throws IllegalArgumentException, IllegalStateException {
        requireRange(skill, 0, 3);
        requireRange(force, 1, 999);
        requireRange(warp, 0, 9999);
        requireRoom(toolCount, MOST_TOOLS);
        Tool t = new Tool(toolCount, skill, force, hasSlides, isFood, warp);
        t.hang(new Cell(2, 5, 0, -1), -1);
        tools[toolCount] = t;
        toolCount++;
        return t.number;
    }

    public int cell(int tool, int on, int grams, int wall, int circuit, int cavity)
            throws IndexOutOfBoundsException, IllegalArgumentException,
            UnsupportedOperationException, IllegalStateException {
        Tool t = toolAt(tool);
        requireIndex(on, t.cellCount);
        requireRange(grams, 1, 50);
        requireRange(wall, 1, 9);
        requireRange(circuit, 0, CIRCUITS - 1);
        requireRange(cavity, -1, CAVITIES - 1);
        requireUnused(t);
        return t.hang(new Cell(grams, wall, circuit, cavity), on);
    }

    public boolean join(int tool, int cell, int other)
            throws IndexOutOfBoundsException, IllegalArgumentException, UnsupportedOperationException {
        Tool t = toolAt(tool);
        requireIndex(cell, t.cellCount);
        requireIndex(other, t.cellCount);
        if (cell == other) {
            throw new IllegalArgumentException("a cell is not joined with itself");
        }
        requireUnused(t);
        boolean isNew = !isIn(t.cells[cell].beside, other);
        t.cells[cell].beside |= 1 << other;
        t.cells[other].beside |= 1 << cell;
        return isNew;
    }

    public boolean block(int tool, int cavity, boolean is) throws IndexOutOfBoundsException {
        Cavity c = cavityAt(toolAt(tool), cavity);
        boolean was = c.isBlocked;
        c.isBlocked = is;
        return was;
    }

    public int setFlow(int tool, int circuit, int flow)
            throws IndexOutOfBoundsException, IllegalArgumentException {
        Tool t = toolAt(tool);
        requireRange(circuit, 0, CIRCUITS - 1);
        requireRange(flow, 0, 9);
        int before = t.flows[circuit];
        t.flows[circuit] = flow;
        return before;
    }

    public char setNozzle(int tool, int cell, char how)
            throws IndexOutOfBoundsException, IllegalArgumentException {
        Cell c = cellAt(toolAt(tool), cell);
        if (how != 'h' && how != 'f' && how != '-') {
            throw new IllegalArgumentException("no such way of a nozzle");
        }
        char before = c.nozzle;
        c.nozzle = how;
        return before;
    }

    public int setNominal(int tool, int cavity, int size, int tolerance)
            throws IndexOutOfBoundsException, IllegalArgumentException {
        Cavity c = cavityAt(toolAt(tool), cavity);
        requireRange(size, 90000, 100000);
        requireRange(tolerance, 0, 9999);
        int before = c.nominal;
        c.nominal = size;
        c.tolerance = tolerance;
        return before;
    }

    public int freezing(int tool, int cell) throws IndexOutOfBoundsException {
        Tool t = toolAt(tool);
        return t.ticksToFreeze(cellAt(t, cell));
    }

    public int serve(int tool) throws IndexOutOfBoundsException, IllegalStateException {
        Tool t = toolAt(tool);
        if (t.machine != null) {
            throw new IllegalStateException("the tool is on a machine");
        }
        int made = t.shots;
        t.shots = 0;
        return made;
    }

    // ---- machines, settings, mounting

    public int machine(int force, int shot, int speed, int screw)
            throws IllegalArgumentException, IllegalStateException {
        requireRange(force, 1, 999);
        requireRange(shot, 1, 2000);
        requireRange(speed, 1, 99);
        requireRange(screw, 10, 99);
        requireRoom(machineCount, MOST_MACHINES);
        machines[machineCount] = new Machine(machineCount, force, shot, speed, screw);
        machineCount++;
        return machineCount - 1;
    }

    public int setting(int machine, int speed, int pressure, int ticks)
            throws IndexOutOfBoundsException, IllegalArgumentException {
        Machine m = machineAt(machine);
        requireRange(speed, 1, m.speed);
        requireRange(pressure, 0, 99);
        requireRange(ticks, 0, 60);
        tellSetting(m, speed, pressure, ticks);
        return settingCount;
    }

    public int copy(int machine, int to) throws IndexOutOfBoundsException, NoSuchElementException {
        Machine from = machineAt(machine);
        Machine other = machineAt(to);
        Setting old = from.setting;
        if (old == null) {
            throw new NoSuchElementException("the machine has no setting");
        }
        int speed = other.speedFor(old.speed, from.screw);
        tellSetting(other, speed, old.pressure, old.ticks);
        return speed;
    }

    public int setter(int skill) throws IllegalArgumentException, IllegalStateException {
        requireRange(skill, 0, 3);
        requireRoom(setterCount, MOST_SETTERS);
        setters[setterCount] = skill;
        setterCount++;
        return setterCount - 1;
    }

    public int mount(int machine, int tool, int setter)
            throws IndexOutOfBoundsException, UnsupportedOperationException, IllegalStateException {
        Machine m = machineAt(machine);
        Tool t = toolAt(tool);
        requireIndex(setter, setterCount);
        if (setters[setter] < t.skill || t.force > m.force || (t.machine != null && t.machine != m)) {
            throw new UnsupportedOperationException("the tool is not for this setter or machine");
        }
        if (m.next != 's') {
            throw new IllegalStateException("the mould is not as for closing");
        }
        Tool before = m.tool;
        if (before != null) {
            before.machine = null;
        }
        m.tool = t;
        t.machine = m;
        return before == null ? -1 : before.number;
    }

    public int purge(int machine, int lot, int colour)
            throws IndexOutOfBoundsException, IllegalArgumentException, IllegalStateException {
        Machine m = machineAt(machine);
        Lot l = lotAt(lot);
        requireRange(colour, 0, 7);
        int grams = m.gramsToPurge(l.resin, colour);
        if (l.grams < grams || m.holdsParts()) {
            throw new IllegalStateException("too few grams, or a part is in the mould");
        }
        l.grams -= grams;
        l.resin.addWaste(grams, l.generation);
        m.resin = l.resin;
        m.colour = colour;
        m.hopper.count = 0;
        return grams;
    }

    public int purging(int machine, int resin, int colour)
            throws IndexOutOfBoundsException, IllegalArgumentException {
        Machine m = machineAt(machine);
        Resin r = resinAt(resin);
        requireRange(colour, 0, 7);
        return m.gramsToPurge(r, colour);
    }

    public int feed(int machine, int lot, int share)
            throws IndexOutOfBoundsException, IllegalArgumentException,
            UnsupportedOperationException, IllegalStateException {
        Machine m = machineAt(machine);
        Lot l = lotAt(lot);
        requireRange(share, 0, 100);
        if (m.resin != l.resin) {
            throw new UnsupportedOperationException("the machine has another resin, or none");
        }
        int at = m.hopper.placeOf(l);
        if (at >= 0) {
            m.hopper.change(at, share);
        } else if (share > 0) {
            m.hopper.add(l, share);
        }
        return m.hopper.sum();
    }

    // ---- shots and taking out

    public int shot(int machine)
            throws IndexOutOfBoundsException, NoSuchElementException,
            UnsupportedOperationException, IllegalStateException {
        Machine m = machineAt(machine);
        Tool t = m.tool;
        Resin r = m.resin;
        if (t == null || m.setting == null || r == null || t.openCavities() == 0) {
            throw new NoSuchElementException("no tool, setting, resin or open cavity");
        }
        if (!m.hopper.isRightFor(r) || !m.hopper.isDryFor(r)) {
            throw new UnsupportedOperationException("the hopper is not right, or a lot is too wet");
        }
        int needed = t.openGrams();
        if (!m.isReady() || needed > m.shot || !m.hopper.hasEnough(needed)
                || partCount + t.openCavities() > MOST_PARTS) {
            throw new IllegalStateException("the shot cannot be made");
        }
        Shot s = new Shot(m, t, r, m.setting, hour);
        s.melt.run(t, r, m.setting);
        s.take(needed, m.hopper);
        r.addWaste(needed - addParts(s), s.greatestGeneration());
        t.shots++;
        t.wasUsed = true;
        m.last = s;
        m.next = t.hasSlides ? 'o' : 'f';
        return s.melt.length;
    }

    public char foresee(int machine) throws IndexOutOfBoundsException, NoSuchElementException {
        Machine m = machineAt(machine);
        Tool t = m.tool;
        Resin r = m.resin;
        Setting s = m.setting;
        if (t == null || s == null || r == null) {
            throw new NoSuchElementException("no tool, setting or resin");
        }
        trial.run(t, r, s);
        if (trial.traps > 0) {
            return 't';
        }
        if (trial.notFull > 0) {
            return 's';
        }
        return trial.welds > 0 ? 'w' : '-';
    }

    public int last(int machine, char what)
            throws IndexOutOfBoundsException, IllegalArgumentException, NoSuchElementException {
        Machine m = machineAt(machine);
        if (what != 'l' && what != 'f' && what != 'w' && what != 't' && what != 'n' && what != 'g') {
            throw new IllegalArgumentException("no such thing of a shot");
        }
        if (m.last == null) {
            throw new NoSuchElementException("the machine made no shot");
        }
        return m.last.melt.told(what);
    }

    public int tickOf(int machine, int cell, boolean isFrozen)
            throws IndexOutOfBoundsException, NoSuchElementException {
        Machine m = machineAt(machine);
        if (m.last == null) {
            throw new NoSuchElementException("the machine made no shot");
        }
        Melt melt = m.last.melt;
        requireIndex(cell, melt.count);
        int tick = isFrozen ? melt.freezes[cell] : melt.reached[cell];
        if (tick == 0) {
            throw new NoSuchElementException("not reached, or not frozen");
        }
        return tick;
    }

    public char act(int machine, char what)
            throws IndexOutOfBoundsException, IllegalArgumentException, NoSuchElementException,
            UnsupportedOperationException, IllegalStateException {
        Machine m = machineAt(machine);
        if (what != 'o' && what != 'f' && what != 't' && what != 'b' && what != 'i') {
            throw new IllegalArgumentException("no such act");
        }
        Tool t = m.tool;
        if (t == null) {
            throw new NoSuchElementException("no tool is there");
        }
        if (what != m.next) {
            throw new UnsupportedOperationException("it would collide");
        }
        if (what == 't' && m.isBroken) {
            throw new IllegalStateException("the robot is broken");
        }
        if (what == 't') {
            takeOut(m.last);
        }
        m.next = follower(what, t.hasSlides);
        return m.next;
    }

    public boolean breakRobot(int machine, boolean is) throws IndexOutOfBoundsException {
        Machine m = machineAt(machine);
        boolean was = m.isBroken;
        m.isBroken = is;
        return was;
    }

    // ---- parts, charts, boxes, causes

    public int pass(int hours) throws IllegalArgumentException {
        requireRange(hours, 1, 100);
        hour += hours;
        for (int i = 0; i < lotCount; i++) {
            Lot l = lots[i];
            if (l.grams > 0) {
                l.water = Math.min(MOST_WATER, l.water + hours);
            }
        }
        return hour;
    }

    public int partOf(int part, char what) throws IndexOutOfBoundsException, IllegalArgumentException {
        Part p = partAt(part);
        if (what == 'c') {
            return p.cavity;
        }
        if (what == 'g') {
            return p.grams;
        }
        if (what == 's') {
            return p.shrinking;
        }
        if (what == 'w') {
            return p.warp;
        }
        if (what != 'm' && what != 't' && what != 'h' && what != 'p') {
            throw new IllegalArgumentException("no such thing of a part");
        }
        return p.shot.told(what);
    }

    public int lotIn(int part, int lot) throws IndexOutOfBoundsException {
        Part p = partAt(part);
        return p.shot.gramsOf(lotAt(lot));
    }

    public char stateOf(int part) throws IndexOutOfBoundsException {
        return partAt(part).state;
    }

    public int size(int part) throws IndexOutOfBoundsException {
        return partAt(part).sizeAt(hour);
    }

    public boolean measure(int part)
            throws IndexOutOfBoundsException, UnsupportedOperationException, IllegalStateException {
        Part p = partAt(part);
        if (p.isMeasured || p.state == 'm' || p.state == 'g' || !p.isWhole) {
            throw new UnsupportedOperationException("the part is not to be measured");
        }
        if (!p.isSettled(hour)) {
            throw new IllegalStateException("the part has not 24 hours");
        }
        p.isMeasured = true;
        p.isOff = cavityAt(p.shot.tool, p.cavity).isOff(p.sizeAt(hour));
        addToChart(p);
        return !p.isOff;
    }

    public boolean isBad(int part) throws IndexOutOfBoundsException {
        return partAt(part).isPoor();
    }

    public int points(int tool, int cavity) throws IndexOutOfBoundsException {
        Tool t = toolAt(tool);
        cavityAt(t, cavity);
        int count = 0;
        for (int i = 0; i < measuredCount; i++) {
            if (measured[i].isOf(t, cavity)) {
                count++;
            }
        }
        return count;
    }

    public int warning(int tool, int cavity) throws IndexOutOfBoundsException, NoSuchElementException {
        Tool t = toolAt(tool);
        int point = firstWarning(t, cavity, cavityAt(t, cavity));
        if (point < 0) {
            throw new NoSuchElementException("the chart does not warn");
        }
        return point;
    }

    public int box(int tool, int cavities, int each)
            throws IndexOutOfBoundsException, IllegalArgumentException,
            NoSuchElementException, IllegalStateException {
        Tool t = toolAt(tool);
        if (cavities < 1 || (cavities & ~t.cavitiesIn()) != 0) {
            throw new IndexOutOfBoundsException("no such cavity, or none");
        }
        requireRange(each, 1, 9);
        for (int c = 0; c < CAVITIES; c++) {
            if (isIn(cavities, c) && countToBox(t, c) < each) {
                throw new NoSuchElementException("not so many parts");
            }
        }
        requireRoom(boxCount, MOST_BOXES);
        for (int c = 0; c < CAVITIES; c++) {
            if (isIn(cavities, c)) {
                putInBox(t, c, each);
            }
        }
        boxCount++;
        return boxCount - 1;
    }

    public int inBox(int box, int index) throws IndexOutOfBoundsException {
        requireIndex(box, boxCount);
        int part = index < 0 ? -1 : partInBox(box, index);
        if (part < 0) {
            throw new IndexOutOfBoundsException("no such part of the box");
        }
        return part;
    }

    public int cause(int tool) throws IndexOutOfBoundsException, NoSuchElementException {
        Part bad = firstBadOut(toolAt(tool));
        int found = bad == null ? -1 : causeLike(bad);
        if (found < 0) {
            throw new NoSuchElementException("no cause, or no bad part");
        }
        return found;
    }

    public int parts() {
        return partCount;
    }

    public long brought(int resin) throws IndexOutOfBoundsException {
        return resinAt(resin).brought;
    }

    public long lost(int resin) throws IndexOutOfBoundsException {
        return resinAt(resin).lost;
    }

    public float badShare() throws ArithmeticException {
        if (partCount == 0) {
            throw new ArithmeticException("no parts");
        }
        int bad = 0;
        for (int i = 0; i < partCount; i++) {
            if (parts[i].isPoor()) {
                bad++;
            }
        }
        return (float) bad / (float) partCount;
    }

    public double meanShrinking() throws ArithmeticException {
        if (partCount == 0) {
            throw new ArithmeticException("no parts");
        }
        long sum = 0;
        for (int i = 0; i < partCount; i++) {
            sum += parts[i].shrinking;
        }
        return (double) sum / (double) partCount;
    }

    public boolean isTrue() {
        for (int i = 0; i < resinCount; i++) {
            if (gramsFound(resins[i]) != resins[i].brought) {
                return false;
            }
        }
        for (int i = 0; i < partCount; i++) {
            if (!parts[i].isFoundAgain()) {
                return false;
            }
        }
        return true;
    }

    // ---- what the calls share

    private static void requireRange(int value, int least, int most) {
        if (value < least || value > most) {
            throw new IllegalArgumentException("a number is out of range");
        }
    }

    private static void requireRoom(int count, int most) {
        if (count >= most) {
            throw new IllegalStateException("there are as many as there may be");
        }
    }

    private static void requireIndex(int index, int count) {
        if (index < 0 || index >= count) {
            throw new IndexOutOfBoundsException("no such number");
        }
    }

    private static void requireUnused(Tool t) {
        if (t.wasUsed) {
            throw new UnsupportedOperationException("the tool made a shot");
        }
    }

    private Resin resinAt(int number) {
        requireIndex(number, resinCount);
        return resins[number];
    }

    private Lot lotAt(int number) {
        requireIndex(number, lotCount);
        return lots[number];
    }

    private Tool toolAt(int number) {
        requireIndex(number, toolCount);
        return tools[number];
    }

    private Machine machineAt(int number) {
        requireIndex(number, machineCount);
        return machines[number];
    }

    private Part partAt(int number) {
        requireIndex(number, partCount);
        return parts[number];
    }

    private static Cell cellAt(Tool t, int number) {
        requireIndex(number, t.cellCount);
        return t.cells[number];
    }

    private static Cavity cavityAt(Tool t, int number) {
        requireIndex(number, CAVITIES);
        if (t.cavities[number].cells == 0) {
            throw new IndexOutOfBoundsException("the cavity has no cells");
        }
        return t.cavities[number];
    }

    private static boolean isIn(int mask, int bit) {
        return (mask >> bit & 1) == 1;
    }

    private int addLot(Resin r, int grams, int water, int generation) {
        requireRoom(lotCount, MOST_LOTS);
        lots[lotCount] = new Lot(lotCount, r, generation, grams, water);
        lotCount++;
        return lotCount - 1;
    }

    // A bad part in a box was taken out, too: the document keeps it from the mill by nothing.
    private static boolean isToGrind(Part p, Resin r) {
        return p.shot.resin == r && p.state != 'm' && p.state != 'g' && p.isPoor();
    }

    private void markGround(Resin r) {
        for (int i = 0; i < partCount; i++) {
            if (isToGrind(parts[i], r)) {
                parts[i].state = 'g';
            }
        }
    }

    private void tellSetting(Machine m, int speed, int pressure, int ticks) {
        m.setting = new Setting(settingCount, speed, pressure, ticks);
        settingCount++;
    }

    private int addParts(Shot s) {
        int grams = 0;
        for (int c = 0; c < CAVITIES; c++) {
            if (s.tool.cavities[c].isOpen() && partCount < MOST_PARTS) {
                Part p = new Part(s, c);
                parts[partCount] = p;
                partCount++;
                grams += p.grams;
            }
        }
        return grams;
    }

    private void takeOut(Shot s) {
        for (int i = 0; i < partCount; i++) {
            if (parts[i].shot == s) {
                parts[i].state = 'o';
            }
        }
    }

    private static char follower(char act, boolean hasSlides) {
        if (act == 'o') {
            return 'f';
        }
        if (act == 'f') {
            return 't';
        }
        if (act == 't') {
            return 'b';
        }
        return act == 'b' && hasSlides ? 'i' : 's';
    }

    private void addToChart(Part p) {
        if (measuredCount < MOST_PARTS) {
            measured[measuredCount] = p;
            measuredCount++;
        }
    }

    private int firstWarning(Tool t, int cavity, Cavity c) {
        int point = 0;
        int rises = 0;
        int falls = 0;
        int before = 0;
        for (int i = 0; i < measuredCount; i++) {
            if (measured[i].isOf(t, cavity)) {
                int size = measured[i].sizeAt(hour);
                rises = point > 0 && size > before ? rises + 1 : 0;
                falls = point > 0 && size < before ? falls + 1 : 0;
                if (c.isOff(size) || rises >= TREND || falls >= TREND) {
                    return point;
                }
                before = size;
                point++;
            }
        }
        return -1;
    }

    private boolean isToBox(Part p, Tool t, int cavity) {
        return p.isOf(t, cavity) && p.state == 'o' && p.isSettled(hour) && !p.isPoor();
    }

    private int countToBox(Tool t, int cavity) {
        int count = 0;
        for (int i = 0; i < partCount; i++) {
            if (isToBox(parts[i], t, cavity)) {
                count++;
            }
        }
        return count;
    }

    private void putInBox(Tool t, int cavity, int each) {
        int left = each;
        for (int i = 0; i < partCount && left > 0; i++) {
            Part p = parts[i];
            if (isToBox(p, t, cavity)) {
                p.state = 'b';
                p.box = boxCount;
                left--;
            }
        }
    }

    private int partInBox(int box, int index) {
        int left = index;
        for (int c = 0; c < CAVITIES; c++) {
            for (int i = 0; i < partCount; i++) {
                if (parts[i].box == box && parts[i].cavity == c) {
                    if (left == 0) {
                        return i;
                    }
                    left--;
                }
            }
        }
        return -1;
    }

    private Part firstBadOut(Tool t) {
        for (int i = 0; i < partCount; i++) {
            if (parts[i].isOutOf(t) && parts[i].isPoor()) {
                return parts[i];
            }
        }
        return null;
    }

    // Only what one bad part has can be what all of them have, so one is looked at.
    private int causeLike(Part bad) {
        if (tellsBadFromGood(bad.shot.tool, 100 + bad.cavity)) {
            return 100 + bad.cavity;
        }
        for (int lot = 0; lot < lotCount; lot++) {
            if (bad.has(200 + lot) && tellsBadFromGood(bad.shot.tool, 200 + lot)) {
                return 200 + lot;
            }
        }
        int setting = 300 + bad.shot.setting.number;
        return tellsBadFromGood(bad.shot.tool, setting) ? setting : -1;
    }

    private boolean tellsBadFromGood(Tool t, int reason) {
        for (int i = 0; i < partCount; i++) {
            Part p = parts[i];
            if (p.isOutOf(t) && p.has(reason) != p.isPoor()) {
                return false;
            }
        }
        return true;
    }

    private long gramsFound(Resin r) {
        long grams = r.waste + r.lost;
        for (int i = 0; i < lotCount; i++) {
            if (lots[i].resin == r) {
                grams += lots[i].grams;
            }
        }
        for (int i = 0; i < partCount; i++) {
            if (parts[i].shot.resin == r && parts[i].state != 'g') {
                grams += parts[i].grams;
            }
        }
        return grams;
    }

    private static final class Resin {
        private final int flow;
        private final int shrinking;
        private final int regrind;
        private final int generations;
        private final int water;
        private final boolean isFood;
        private int waste;
        private int wasteGeneration;
        private long brought;
        private long lost;

        private Resin(int flow, int shrinking, int regrind, int generations, int water, boolean isFood) {
            this.flow = flow;
            this.shrinking = shrinking;
            this.regrind = regrind;
            this.generations = generations;
            this.water = water;
            this.isFood = isFood;
        }

        private void addWaste(int more, int generation) {
            waste += more;
            if (more > 0) {
                wasteGeneration = Math.max(wasteGeneration, generation);
            }
        }
    }

    private static final class Lot {
        private final int number;
        private final Resin resin;
        private final int generation;
        private int grams;
        private int water;

        private Lot(int number, Resin resin, int generation, int grams, int water) {
            this.number = number;
            this.resin = resin;
            this.generation = generation;
            this.grams = grams;
            this.water = water;
        }
    }

    private static final class Cell {
        private final int grams;
        private final int wall;
        private final int circuit;
        private final int cavity;
        private char nozzle;
        private int beside;

        private Cell(int grams, int wall, int circuit, int cavity) {
            this.grams = grams;
            this.wall = wall;
            this.circuit = circuit;
            this.cavity = cavity;
            this.nozzle = '-';
        }
    }

    private static final class Cavity {
        private int cells;
        private boolean isBlocked;
        private int nominal;
        private int tolerance;

        private Cavity() {
            nominal = FULL_SIZE;
            tolerance = 9999;
        }

        private boolean isOpen() {
            return cells > 0 && !isBlocked;
        }

        private boolean isOff(int size) {
            return Math.abs(size - nominal) > tolerance;
        }
    }

    private static final class Tool {
        private final int number;
        private final int skill;
        private final int force;
        private final boolean hasSlides;
        private final boolean isFood;
        private final int warp;
        private final Cell[] cells;
        private final Cavity[] cavities;
        private final int[] flows;
        private int cellCount;
        private int shots;
        private boolean wasUsed;
        private Machine machine;

        private Tool(int number, int skill, int force, boolean hasSlides, boolean isFood, int warp) {
            this.number = number;
            this.skill = skill;
            this.force = force;
            this.hasSlides = hasSlides;
            this.isFood = isFood;
            this.warp = warp;
            cells = new Cell[MOST_CELLS];
            cavities = new Cavity[CAVITIES];
            for (int c = 0; c < CAVITIES; c++) {
                cavities[c] = new Cavity();
            }
            flows = new int[CIRCUITS];
            for (int c = 0; c < CIRCUITS; c++) {
                flows[c] = 5;
            }
        }

        private int hang(Cell cell, int on) {
            requireRoom(cellCount, MOST_CELLS);
            cells[cellCount] = cell;
            if (on >= 0 && on < cellCount) {
                cell.beside |= 1 << on;
                cells[on].beside |= 1 << cellCount;
            }
            if (cell.cavity >= 0 && cell.cavity < CAVITIES) {
                cavities[cell.cavity].cells++;
            }
            cellCount++;
            return cellCount - 1;
        }

        private int ticksToFreeze(Cell cell) {
            int flow = cell.circuit >= 0 && cell.circuit < CIRCUITS ? flows[cell.circuit] : 0;
            int cooling = 5 + flow;
            int heat = cell.wall * cell.wall * 10;
            return cooling <= 0 ? heat : (heat + cooling - 1) / cooling;
        }

        private boolean isOpen(Cell cell) {
            return cell.cavity < 0 || cell.cavity >= CAVITIES || cavities[cell.cavity].isOpen();
        }

        private int openCavities() {
            int count = 0;
            for (int c = 0; c < CAVITIES; c++) {
                if (cavities[c].isOpen()) {
                    count++;
                }
            }
            return count;
        }

        private int cavitiesIn() {
            int mask = 0;
            for (int c = 0; c < CAVITIES; c++) {
                if (cavities[c].cells > 0) {
                    mask |= 1 << c;
                }
            }
            return mask;
        }

        private int openGrams() {
            int grams = 0;
            for (int c = 0; c < cellCount; c++) {
                if (isOpen(cells[c])) {
                    grams += cells[c].grams;
                }
            }
            return grams;
        }
    }

    private static final class Setting {
        private final int number;
        private final int speed;
        private final int pressure;
        private final int ticks;

        private Setting(int number, int speed, int pressure, int ticks) {
            this.number = number;
            this.speed = speed;
            this.pressure = pressure;
            this.ticks = ticks;
        }
    }

    private static final class Machine {
        private final int number;
        private final int force;
        private final int shot;
        private final int speed;
        private final int screw;
        private final Hopper hopper;
        private Tool tool;
        private Setting setting;
        private Resin resin;
        private int colour;
        private char next;
        private boolean isBroken;
        private Shot last;

        private Machine(int number, int force, int shot, int speed, int screw) {
            this.number = number;
            this.force = force;
            this.shot = shot;
            this.speed = speed;
            this.screw = screw;
            hopper = new Hopper();
            next = 's';
        }

        private int speedFor(int oldSpeed, int oldScrew) {
            int square = screw * screw;
            int wanted = square <= 0 ? speed : oldSpeed * oldScrew * oldScrew / square;
            return Math.max(1, Math.min(speed, wanted));
        }

        private boolean holdsParts() {
            return next == 'o' || next == 'f' || next == 't';
        }

        private boolean isReady() {
            return next == 's' && !isBroken && tool != null && tool.shots < SHOTS_TO_SERVICE;
        }

        private int gramsToPurge(Resin to, int newColour) {
            if (resin == null) {
                return 20;
            }
            int grams = 20 + 30 * Math.max(0, colour - newColour);
            if (resin != to) {
                grams += 50;
            }
            boolean isForFood = to.isFood || (tool != null && tool.isFood);
            if (isForFood && !resin.isFood) {
                grams += 200;
            }
            return grams;
        }
    }

    private static final class Hopper {
        private final Lot[] lots;
        private final int[] shares;
        private int count;

        private Hopper() {
            lots = new Lot[MOST_FED];
            shares = new int[MOST_FED];
        }

        private int placeOf(Lot lot) {
            for (int i = 0; i < count; i++) {
                if (lots[i] == lot) {
                    return i;
                }
            }
            return -1;
        }

        private void add(Lot lot, int share) {
            requireRoom(count, MOST_FED);
            lots[count] = lot;
            shares[count] = share;
            count++;
        }

        private void change(int at, int share) {
            if (at < 0 || at >= count) {
                return;
            }
            shares[at] = share;
            if (share == 0) {
                for (int i = at; i + 1 < count; i++) {
                    lots[i] = lots[i + 1];
                    shares[i] = shares[i + 1];
                }
                count--;
            }
        }

        private int sum() {
            int sum = 0;
            for (int i = 0; i < count; i++) {
                sum += shares[i];
            }
            return sum;
        }

        private boolean isRightFor(Resin resin) {
            int regrind = 0;
            for (int i = 0; i < count; i++) {
                if (lots[i].generation > resin.generations) {
                    return false;
                }
                if (lots[i].generation > 0) {
                    regrind += shares[i];
                }
            }
            return sum() == 100 && regrind <= resin.regrind;
        }

        private boolean isDryFor(Resin resin) {
            for (int i = 0; i < count; i++) {
                if (lots[i].water > resin.water) {
                    return false;
                }
            }
            return true;
        }

        private int gramsFrom(int at, int needed) {
            if (at < 0 || at >= count) {
                return 0;
            }
            if (at > 0) {
                return needed * shares[at] / 100;
            }
            int grams = needed;
            for (int i = 1; i < count; i++) {
                grams -= needed * shares[i] / 100;
            }
            return grams;
        }

        private boolean hasEnough(int needed) {
            for (int i = 0; i < count; i++) {
                if (lots[i].grams < gramsFrom(i, needed)) {
                    return false;
                }
            }
            return true;
        }
    }

    /** What the melt does in a tool: cells are bits in the masks, and the tick 0 stands for never. */
    private static final class Melt {
        // Each tick but the last one gives at least a gram, and 20 cells hold 1000.
        private static final int MOST_TICKS = 1001;

        private final int[] got;
        private final int[] reached;
        private final int[] from;
        private final int[] freezes;
        private final int[] gained;
        private Tool tool;
        private int count;
        private int open;
        private int full;
        private int filling;
        private int length;
        private int welds;
        private int traps;
        private int notFull;
        private int grams;

        private Melt() {
            got = new int[MOST_CELLS];
            reached = new int[MOST_CELLS];
            from = new int[MOST_CELLS];
            freezes = new int[MOST_CELLS];
            gained = new int[MOST_CELLS];
        }

        private void run(Tool into, Resin resin, Setting setting) {
            begin(into);
            fill(resin.flow, setting.speed);
            hold(setting.pressure, setting.ticks);
            length = Math.max(filling + setting.ticks, lastFreezing()) + greatestWall();
            grams = gramsIn();
            notFull = Integer.bitCount(open & ~full);
            countWelds();
            countTraps();
        }

        private void begin(Tool into) {
            tool = into;
            count = Math.min(into.cellCount, MOST_CELLS);
            open = 0;
            full = 0;
            for (int c = 0; c < count; c++) {
                got[c] = 0;
                reached[c] = 0;
                from[c] = -1;
                freezes[c] = 0;
                gained[c] = 0;
                if (into.isOpen(into.cells[c])) {
                    open |= 1 << c;
                }
            }
        }

        private void fill(int flow, int speed) {
            boolean isGiving = true;
            filling = 0;
            while (isGiving && filling < MOST_TICKS) {
                filling++;
                isGiving = give(filling, flow, speed) > 0;
            }
        }

        private int give(int tick, int flow, int speed) {
            int frozen = frozenIn(tick);
            int sources = full & ~frozen;
            int front = frontOf(open & ~full & ~frozen, sources);
            int left = speed;
            for (int wall = 9; wall >= 1 && front != 0 && left > 0; wall--) {
                for (int c = 0; c < count; c++) {
                    if (isIn(front, c) && tool.cells[c].wall == wall) {
                        int share = Math.min(left, mostInTick(c, flow));
                        pour(c, share, tick, sources);
                        left -= share;
                        front &= ~(1 << c);
                    }
                }
            }
            return speed - left;
        }

        private int frozenIn(int tick) {
            int mask = 0;
            for (int c = 0; c < count; c++) {
                if (freezes[c] != 0 && freezes[c] < tick) {
                    mask |= 1 << c;
                }
            }
            return mask;
        }

        private int frontOf(int candidates, int sources) {
            int front = candidates & 1;
            for (int c = 1; c < count; c++) {
                if (isIn(candidates, c) && (tool.cells[c].beside & sources) != 0) {
                    front |= 1 << c;
                }
            }
            return front;
        }

        private int mostInTick(int c, int flow) {
            int most = Math.max(1, tool.cells[c].wall * 2 - flow / 3);
            return Math.min(most, tool.cells[c].grams - got[c]);
        }

        private void pour(int c, int share, int tick, int sources) {
            if (share <= 0) {
                return;
            }
            Cell cell = tool.cells[c];
            if (reached[c] == 0) {
                reached[c] = tick;
                from[c] = lowest(cell.beside & sources);
                freezes[c] = cell.nozzle == 'h' ? 0 : tick + tool.ticksToFreeze(cell);
            }
            got[c] += share;
            if (got[c] >= cell.grams) {
                full |= 1 << c;
            }
        }

        private int lowest(int mask) {
            for (int c = 0; c < count; c++) {
                if (isIn(mask, c)) {
                    return c;
                }
            }
            return -1;
        }

        private void hold(int pressure, int ticks) {
            for (int i = 1; i <= ticks; i++) {
                int pressed = hangingWithFirst(full & ~frozenIn(filling + i));
                for (int c = 0; c < count; c++) {
                    if (isIn(pressed, c)) {
                        gained[c] += pressure;
                    }
                }
            }
        }

        private int hangingWithFirst(int live) {
            int hanging = live & 1;
            int before = 0;
            for (int i = 0; i < count && hanging != before; i++) {
                before = hanging;
                for (int c = 1; c < count; c++) {
                    if (isIn(live, c) && (tool.cells[c].beside & hanging) != 0) {
                        hanging |= 1 << c;
                    }
                }
            }
            return hanging;
        }

        private int lastFreezing() {
            int tick = 0;
            for (int c = 0; c < count; c++) {
                tick = Math.max(tick, freezes[c]);
            }
            return tick;
        }

        private int greatestWall() {
            int wall = 0;
            for (int c = 0; c < count; c++) {
                if (got[c] > 0) {
                    wall = Math.max(wall, tool.cells[c].wall);
                }
            }
            return wall;
        }

        private int gramsIn() {
            int sum = 0;
            for (int c = 0; c < count; c++) {
                sum += got[c];
            }
            return sum;
        }

        private void countWelds() {
            welds = 0;
            for (int a = 1; a < count; a++) {
                for (int b = a + 1; b < count; b++) {
                    boolean isBoth = isIn(full, a) && isIn(full, b);
                    if (isBoth && isIn(tool.cells[a].beside, b) && from[a] != b && from[b] != a) {
                        welds++;
                    }
                }
            }
        }

        private void countTraps() {
            traps = 0;
            for (int c = 0; c < count; c++) {
                int around = tool.cells[c].beside & open;
                if (isIn(open & ~full, c) && around != 0 && (around & ~full) == 0) {
                    traps++;
                }
            }
        }

        private int told(char what) {
            if (what == 'l') {
                return length;
            }
            if (what == 'f') {
                return filling;
            }
            if (what == 'w') {
                return welds;
            }
            if (what == 't') {
                return traps;
            }
            return what == 'n' ? notFull : grams;
        }

        private int gramsInCavity(int cavity) {
            int sum = 0;
            for (int c = 0; c < count; c++) {
                if (tool.cells[c].cavity == cavity) {
                    sum += got[c];
                }
            }
            return sum;
        }

        private boolean isWhole(int cavity) {
            for (int c = 0; c < count; c++) {
                if (tool.cells[c].cavity == cavity && !isIn(full, c)) {
                    return false;
                }
            }
            return true;
        }

        private int shrinkingOf(int cavity, int atFirst) {
            int sum = 0;
            int cells = 0;
            for (int c = 0; c < count; c++) {
                if (tool.cells[c].cavity == cavity) {
                    sum += Math.max(0, atFirst - gained[c]);
                    cells++;
                }
            }
            return cells == 0 ? 0 : sum / cells;
        }

        private int warpOf(int cavity, int atFirst) {
            int least = atFirst;
            int greatest = 0;
            for (int c = 0; c < count; c++) {
                if (tool.cells[c].cavity == cavity) {
                    int shrinking = Math.max(0, atFirst - gained[c]);
                    least = Math.min(least, shrinking);
                    greatest = Math.max(greatest, shrinking);
                }
            }
            return Math.max(0, greatest - least);
        }
    }

    private static final class Shot {
        private final Machine machine;
        private final Tool tool;
        private final Resin resin;
        private final Setting setting;
        private final int hour;
        private final Melt melt;
        private final Lot[] lots;
        private final int[] taken;
        private int count;

        private Shot(Machine machine, Tool tool, Resin resin, Setting setting, int hour) {
            this.machine = machine;
            this.tool = tool;
            this.resin = resin;
            this.setting = setting;
            this.hour = hour;
            melt = new Melt();
            lots = new Lot[MOST_FED];
            taken = new int[MOST_FED];
        }

        private void take(int needed, Hopper hopper) {
            count = Math.min(hopper.count, MOST_FED);
            for (int i = 0; i < count; i++) {
                lots[i] = hopper.lots[i];
                taken[i] = hopper.gramsFrom(i, needed);
                lots[i].grams -= taken[i];
            }
        }

        private int told(char what) {
            if (what == 'm') {
                return machine.number;
            }
            if (what == 't') {
                return tool.number;
            }
            return what == 'h' ? hour : setting.number;
        }

        private int gramsOf(Lot lot) {
            for (int i = 0; i < count; i++) {
                if (lots[i] == lot) {
                    return taken[i];
                }
            }
            return 0;
        }

        private boolean hasLot(int number) {
            for (int i = 0; i < count; i++) {
                if (lots[i].number == number) {
                    return taken[i] > 0;
                }
            }
            return false;
        }

        private int greatestGeneration() {
            int greatest = 0;
            for (int i = 0; i < count; i++) {
                if (taken[i] > 0) {
                    greatest = Math.max(greatest, lots[i].generation);
                }
            }
            return greatest;
        }
    }

    private static final class Part {
        private final Shot shot;
        private final int cavity;
        private final int grams;
        private final int shrinking;
        private final int warp;
        private final boolean isWhole;
        private char state;
        private boolean isMeasured;
        private boolean isOff;
        private int box;

        private Part(Shot shot, int cavity) {
            this.shot = shot;
            this.cavity = cavity;
            int atFirst = shot.resin.shrinking * 100;
            grams = shot.melt.gramsInCavity(cavity);
            shrinking = shot.melt.shrinkingOf(cavity, atFirst);
            warp = shot.melt.warpOf(cavity, atFirst);
            isWhole = shot.melt.isWhole(cavity);
            state = 'm';
            box = -1;
        }

        private boolean isPoor() {
            return !isWhole || warp > shot.tool.warp || isOff;
        }

        private boolean isSettled(int now) {
            return now - shot.hour >= HOURS_TO_SETTLE;
        }

        private int sizeAt(int now) {
            int atOnce = shrinking * 3 / 4;
            int hours = Math.min(HOURS_TO_SETTLE, now - shot.hour);
            return FULL_SIZE - atOnce - (shrinking - atOnce) * hours / HOURS_TO_SETTLE;
        }

        private boolean isOf(Tool tool, int ofCavity) {
            return shot.tool == tool && cavity == ofCavity;
        }

        private boolean isOutOf(Tool tool) {
            return shot.tool == tool && state != 'm';
        }

        private boolean has(int reason) {
            if (reason < 200) {
                return cavity == reason - 100;
            }
            if (reason < 300) {
                return shot.hasLot(reason - 200);
            }
            return shot.setting.number == reason - 300;
        }

        private boolean isFoundAgain() {
            int atFirst = shot.resin.shrinking * 100;
            return shrinking == shot.melt.shrinkingOf(cavity, atFirst)
                    && warp == shot.melt.warpOf(cavity, atFirst);
        }
    }
}
