import java.util.ArrayList;
import java.util.Arrays;
import java.util.NoSuchElementException;

/** The water of a city under pressure; what each call does is promised in ../shared/DOC.md. */
public final class Valvekeeper {
    private static final int MOST_NODES = 16;
    private static final int MOST_PIPES = 24;
    private static final int MOST_HEIGHT = 200;
    private static final int MOST_DEMAND = 99;
    private static final int MOST_AREA = 50;
    private static final int MOST_WATER = 9999;
    private static final int MOST_WIDTH = 9;
    private static final int MOST_LIFT = 99;
    private static final int MOST_LOW_MARK = 999;
    private static final int MOST_LEAK = 50;
    private static final int MOST_PERCENT = 300;
    private static final int WHOLE = 100;
    private static final int MOST_TARIFF = 99;
    private static final int MOST_PACE = 200;
    private static final int DISTRICTS = 4;
    private static final int DAY = 24;
    private static final int MOST_HOURS = 2000;
    private static final int MOST_SWEEPS = 60;
    private static final int DEEPEST = 100;
    private static final int START_COST = 5;
    private static final int MOST_QUALITY = 1000;

    private final ArrayList<Node> nodes = new ArrayList<Node>();
    private final ArrayList<Junction> junctions = new ArrayList<Junction>();
    private final ArrayList<Tank> tanks = new ArrayList<Tank>();
    private final ArrayList<Pipe> pipes = new ArrayList<Pipe>();
    /** The ends of all pipes: the first one of pipe p stands at 2 * p, its second one at 2 * p + 1. */
    private final ArrayList<End> ends = new ArrayList<End>();
    private final Search search = new Search();
    private final int[] pattern = new int[DAY];
    private final int[] tariffs = new int[DAY];
    private int drought = WHOLE;
    private int hoursGone;
    private int sweepsDone;
    private long pumpCost;
    private final Whole waterUsed = new Whole();
    private int turns;
    /** For numbers on the way; no call finds anything of use in them. */
    private final Whole sum = new Whole();
    private final Whole part = new Whole();

    /** Creates a city without nodes and pipes, at the hour 0. */
    public Valvekeeper() {
        Arrays.fill(pattern, WHOLE);
        Arrays.fill(tariffs, 1);
    }

    // ---- net

    /** Adds a junction; returns its number as a node. */
    public int junction(int height, int demand) throws IllegalArgumentException, IllegalStateException {
        needWithin(height, 0, MOST_HEIGHT);
        needWithin(demand, 0, MOST_DEMAND);
        needRoomForNode();
        Junction added = new Junction(height, demand);
        nodes.add(added);
        junctions.add(added);
        return nodes.size() - 1;
    }

    /** Adds a tank; returns its number as a node. */
    public int tank(int height, int area, int water) throws IllegalArgumentException, IllegalStateException {
        needWithin(height, 0, MOST_HEIGHT);
        needWithin(area, 1, MOST_AREA);
        needWithin(water, 0, MOST_WATER);
        needRoomForNode();
        Tank added = new Tank(height, area, water);
        nodes.add(added);
        tanks.add(added);
        return nodes.size() - 1;
    }

    /** Adds a pipe between two nodes; returns its number. */
    public int pipe(int first, int second, int width, char kind, int lift, int valves)
            throws IndexOutOfBoundsException, IllegalArgumentException, IllegalStateException {
        Node from = nodeAt(first);
        Node to = nodeAt(second);
        boolean hasPump = kind == 'p';
        boolean isKnown = hasPump || kind == '-' || kind == '>';
        if (first == second || !isKnown) {
            throw new IllegalArgumentException("two unlike nodes and a kind of pipe are needed");
        }
        needWithin(width, 1, MOST_WIDTH);
        needWithin(valves, 0, 3);
        if (hasPump) {
            needWithin(lift, 1, MOST_LIFT);
        }
        if (pipes.size() >= MOST_PIPES) {
            throw new IllegalStateException("no room for a pipe");
        }
        Pipe added = new Pipe(from, to, width, kind, hasPump ? lift : 0);
        pipes.add(added);
        addEnd(added, from, (valves & 1) != 0);
        addEnd(added, to, (valves & 2) != 0);
        return pipes.size() - 1;
    }

    /** Opens or shuts a valve; returns whether it is so then. */
    public boolean valve(int pipe, boolean atSecond, boolean isOpen)
            throws IndexOutOfBoundsException, NoSuchElementException {
        End end = valveAt(pipe, atSecond);
        if (end.isOpen == isOpen) {
            return true;
        }
        if (end.isStuck) {
            return false;
        }
        end.isOpen = isOpen;
        turns++;
        return true;
    }

    /** Lets a valve be stuck, or free again; returns whether it was. */
    public boolean stick(int pipe, boolean atSecond, boolean isStuck)
            throws IndexOutOfBoundsException, NoSuchElementException {
        End end = valveAt(pipe, atSecond);
        boolean was = end.isStuck;
        end.isStuck = isStuck;
        return was;
    }

    /** Turns a pump on or off; returns whether it was on. */
    public boolean pump(int pipe, boolean isOn) throws IndexOutOfBoundsException, UnsupportedOperationException {
        Pipe pumped = pumpAt(pipe);
        boolean was = pumped.isOn;
        pumped.isOn = isOn;
        return was;
    }

    /** Gives a pump a rule, or takes it away for the tank -1; returns whether it had one. */
    public boolean rule(int pipe, int tank, int low, int high)
            throws IndexOutOfBoundsException, UnsupportedOperationException, IllegalArgumentException {
        Pipe pumped = pumpAt(pipe);
        boolean had = pumped.ruleTank != null;
        if (tank == -1) {
            pumped.ruleTank = null;
            return had;
        }
        Tank watched = tankForRule(tank);
        needWithin(low, 0, MOST_LOW_MARK);
        if (high < low) {
            throw new IllegalArgumentException("the upper mark is less than the lower one");
        }
        pumped.ruleTank = watched;
        pumped.lowMark = low;
        pumped.highMark = high;
        return had;
    }

    /** Breaks or mends a pipe; returns whether it was broken. */
    public boolean broke(int pipe, boolean isBroken) throws IndexOutOfBoundsException {
        Pipe hurt = pipeAt(pipe);
        boolean was = hurt.isBroken;
        hurt.isBroken = isBroken;
        return was;
    }

    /** Sets the leak of a junction; returns the one before. */
    public int setLeak(int node, int leak)
            throws IndexOutOfBoundsException, UnsupportedOperationException, IllegalArgumentException {
        Junction leaky = junctionAt(node);
        needWithin(leak, 0, MOST_LEAK);
        int before = leaky.leak;
        leaky.leak = leak;
        return before;
    }

    /** Sets the percentage of demands in an hour of the day; returns the one before. */
    public int setPattern(int hour, int percent) throws IllegalArgumentException {
        needWithin(hour, 0, pattern.length - 1);
        needWithin(percent, 0, MOST_PERCENT);
        int before = pattern[hour];
        pattern[hour] = percent;
        return before;
    }

    /** Sets the percentage of demands in a drought; returns the one before. */
    public int setDrought(int percent) throws IllegalArgumentException {
        needWithin(percent, 0, WHOLE);
        int before = drought;
        drought = percent;
        return before;
    }

    /** Sets the tariff of an hour of the day; returns the one before. */
    public int setTariff(int hour, int tariff) throws IllegalArgumentException {
        needWithin(hour, 0, tariffs.length - 1);
        needWithin(tariff, 0, MOST_TARIFF);
        int before = tariffs[hour];
        tariffs[hour] = tariff;
        return before;
    }

    // ---- hours

    /** Lets hours go by; returns how many went by since the city was made. */
    public int pass(int hours) throws IllegalArgumentException, IllegalStateException {
        needWithin(hours, 1, DAY);
        if (hoursGone + hours > MOST_HOURS) {
            throw new IllegalStateException("no room for these hours");
        }
        for (int i = 0; i < hours; i++) {
            goOneHour();
        }
        return hoursGone;
    }

    /** Returns the head of a node, as it was found last; of a tank, as it is now. */
    public int head(int node) throws IndexOutOfBoundsException {
        return nodeAt(node).head.nearestInt();
    }

    /** Returns what flowed in a pipe in the last hour, less than 0 toward its first node. */
    public int flow(int pipe) throws IndexOutOfBoundsException {
        return pipeAt(pipe).flowed.nearestInt();
    }

    /** Returns the sweeps of the last hour. */
    public int sweeps() {
        return sweepsDone;
    }

    /** Returns whether a junction was dry in the last hour; false for tanks. */
    public boolean wasDry(int node) throws IndexOutOfBoundsException {
        return nodeAt(node) instanceof Junction asked && asked.isDry;
    }

    /** Returns the water of a tank. */
    public int water(int node) throws IndexOutOfBoundsException, UnsupportedOperationException {
        return tankAt(node).held.nearestInt();
    }

    /** Returns what came to a junction in the last hour and is not accounted for; 0 for a tank. */
    public int excess(int node) throws IndexOutOfBoundsException {
        if (nodeAt(node) instanceof Junction asked) {
            sum.setTo(-asked.got);
            sum.addTimes(asked.leaked, -1, 0);
            asked.addInflowTo(sum);
            return sum.nearestInt();
        }
        return 0;
    }

    /** Returns the age 'a', the chlorine 'c' or the foul 'f' of a node. */
    public int quality(int node, char what) throws IndexOutOfBoundsException, IllegalArgumentException {
        Mix asked = nodeAt(node).mix;
        if (what != 'a' && what != 'c' && what != 'f') {
            throw new IllegalArgumentException("no such thing of the quality");
        }
        return asked.of(what);
    }

    /** Sets the foul of a tank; returns the one before. */
    public int foul(int node, int part)
            throws IndexOutOfBoundsException, UnsupportedOperationException, IllegalArgumentException {
        Mix told = tankAt(node).mix;
        needWithin(part, 0, MOST_QUALITY);
        int before = told.dirt;
        told.dirt = part;
        return before;
    }

    /** Returns what pumps cost in all. */
    public long cost() {
        return pumpCost;
    }

    /** Returns the greatest demand of a hydrant at a junction that makes no other one dry, or -1. */
    public int fire(int node) throws IndexOutOfBoundsException, UnsupportedOperationException {
        Junction hydrant = junctionAt(node);
        keepHeads();
        setDemandsOfHour();
        findHeads();
        noteWhoIsDryAnyway();
        int greatest = hydrant.isDryAnyway ? -1 : greatestFireDemand(hydrant);
        bringHeadsBack();
        return greatest;
    }

    // ---- breaks

    /** Returns whether the part of a pipe is shut off. */
    public boolean isShutOff(int pipe) throws IndexOutOfBoundsException {
        return !search.reachesTank(pipeAt(pipe), Search.AS_IT_IS);
    }

    /** Returns how many valves are in the set to shut for a pipe. */
    public int toShut(int pipe) throws IndexOutOfBoundsException, NoSuchElementException {
        return setSize(pipe);
    }

    /** Returns a valve of this set: 2 times its pipe, plus 1 if it is at the second end. */
    public int toShutAt(int pipe, int index)
            throws IndexOutOfBoundsException, NoSuchElementException, IllegalArgumentException {
        setSize(pipe);
        int ahead = 0;
        for (int i = 0; i < ends.size(); i++) {
            if (ends.get(i).isChosen) {
                if (ahead == index) {
                    return i;
                }
                ahead++;
            }
        }
        throw new IllegalArgumentException("no such index");
    }

    /** Shuts these valves; returns how many junctions are cut off by that that were not. */
    public int shut(int pipe) throws IndexOutOfBoundsException, NoSuchElementException {
        int size = setSize(pipe);
        int before = countCutOff();
        for (int i = 0; i < ends.size(); i++) {
            End end = ends.get(i);
            if (end.isChosen) {
                end.isOpen = false;
            }
        }
        turns += size;
        return countCutOff() - before;
    }

    /** Returns whether a junction is cut off; false for tanks. */
    public boolean isCutOff(int node) throws IndexOutOfBoundsException {
        return !search.reachesTank(nodeAt(node), Search.AS_IT_IS);
    }

    /** Returns how many valves were opened or shut. */
    public int turned() {
        return turns;
    }

    // ---- meters

    /** Sets the pace of a meter, 0 if it stands; returns the one before. */
    public int setPace(int node, int pace)
            throws IndexOutOfBoundsException, UnsupportedOperationException, IllegalArgumentException {
        Meter meter = junctionAt(node).meter;
        needWithin(pace, 0, MOST_PACE);
        int before = meter.pace;
        meter.pace = pace;
        return before;
    }

    /** Returns the reading of a meter. */
    public int reading(int node) throws IndexOutOfBoundsException, UnsupportedOperationException {
        return junctionAt(node).meter.total;
    }

    /** Bills a junction by its meter, or by guess if that is not read. */
    public int bill(int node, boolean isRead) throws IndexOutOfBoundsException, UnsupportedOperationException {
        junctionAt(node).meter.charge(isRead, sum);
        return sum.nearestInt();
    }

    /** Puts a junction into a district; returns the one before. */
    public int setDistrict(int node, int district)
            throws IndexOutOfBoundsException, UnsupportedOperationException, IllegalArgumentException {
        Junction moved = junctionAt(node);
        needWithin(district, 0, DISTRICTS - 1);
        int before = moved.district;
        moved.district = district;
        return before;
    }

    /** Returns what a district missed in the last hour. */
    public int missed(int district) throws IllegalArgumentException {
        needWithin(district, 0, DISTRICTS - 1);
        sum.setTo(0);
        for (int i = 0; i < junctions.size(); i++) {
            Junction member = junctions.get(i);
            if (member.district == district) {
                // What flows between two of the district is added here once and taken off once.
                member.addInflowTo(sum);
                sum.increaseBy(-member.meter.lastCount);
            }
        }
        return sum.nearestInt();
    }

    /** Returns how much water was got and leaked in all. */
    public long used() {
        return waterUsed.nearestLong();
    }

    /** Returns the share of junctions that were dry in the last hour. */
    public float dryShare() throws ArithmeticException {
        if (junctions.isEmpty()) {
            throw new ArithmeticException("no junctions");
        }
        int dry = 0;
        for (int i = 0; i < junctions.size(); i++) {
            if (junctions.get(i).isDry) {
                dry++;
            }
        }
        return (float) dry / (float) junctions.size();
    }

    /** Returns the mean of the pressures, each in whole tens. */
    public double meanPressure() throws ArithmeticException {
        if (junctions.isEmpty()) {
            throw new ArithmeticException("no junctions");
        }
        sum.setTo(0);
        for (int i = 0; i < junctions.size(); i++) {
            junctions.get(i).findTensOfPressure(part);
            sum.addTimes(part, 1, 0);
        }
        return sum.takeMean(junctions.size());
    }

    /** Checks that each set to shut shuts its pipe off, and that none of its valves can be spared. */
    public boolean isTrue() {
        for (int i = 0; i < pipes.size(); i++) {
            if (!search.isSetRight(pipes.get(i), ends)) {
                return false;
            }
        }
        return true;
    }

    // ---- arguments

    private static void needWithin(int value, int least, int most) {
        if (value < least || value > most) {
            throw new IllegalArgumentException("a number is out of range");
        }
    }

    private void needRoomForNode() {
        if (nodes.size() >= MOST_NODES) {
            throw new IllegalStateException("no room for a node");
        }
    }

    private Node nodeAt(int node) {
        if (node < 0 || node >= nodes.size()) {
            throw new IndexOutOfBoundsException("no such node");
        }
        return nodes.get(node);
    }

    private Junction junctionAt(int node) {
        if (nodeAt(node) instanceof Junction found) {
            return found;
        }
        throw new UnsupportedOperationException("the node is a tank");
    }

    private Tank tankAt(int node) {
        if (nodeAt(node) instanceof Tank found) {
            return found;
        }
        throw new UnsupportedOperationException("the node is no tank");
    }

    private Tank tankForRule(int node) {
        if (node >= 0 && node < nodes.size() && nodes.get(node) instanceof Tank found) {
            return found;
        }
        throw new IllegalArgumentException("no such tank");
    }

    private Pipe pipeAt(int pipe) {
        if (pipe < 0 || pipe >= pipes.size()) {
            throw new IndexOutOfBoundsException("no such pipe");
        }
        return pipes.get(pipe);
    }

    private Pipe pumpAt(int pipe) {
        Pipe found = pipeAt(pipe);
        if (!found.hasPump) {
            throw new UnsupportedOperationException("the pipe has no pump");
        }
        return found;
    }

    private End valveAt(int pipe, boolean atSecond) {
        ArrayList<End> both = pipeAt(pipe).ends;
        int place = atSecond ? 1 : 0;
        if (place >= both.size() || !both.get(place).hasValve) {
            throw new NoSuchElementException("no valve at this end");
        }
        return both.get(place);
    }

    private void addEnd(Pipe pipe, Node node, boolean hasValve) {
        End end = new End(pipe, node, hasValve);
        pipe.ends.add(end);
        node.ends.add(end);
        ends.add(end);
    }

    // ---- an hour

    private void goOneHour() {
        turnPumpsByRules();
        setDemandsOfHour();
        sweepsDone = findHeads();
        letWaterFlow();
        giveToJunctions();
        payForPumps();
        fillTanks();
        mixWater();
        countByMeters();
        hoursGone++;
    }

    private void turnPumpsByRules() {
        for (int i = 0; i < pipes.size(); i++) {
            Pipe pumped = pipes.get(i);
            Tank watched = pumped.ruleTank;
            if (watched == null) {
                continue;
            }
            if (watched.isLevelBelow(pumped.lowMark)) {
                pumped.isOn = true;
            } else if (watched.isLevelAbove(pumped.highMark)) {
                pumped.isOn = false;
            }
        }
    }

    private void setDemandsOfHour() {
        int percent = ofThisHour(pattern);
        for (int i = 0; i < junctions.size(); i++) {
            Junction junction = junctions.get(i);
            junction.demandNow = junction.demand * percent / 100 * drought / 100;
        }
    }

    private int ofThisHour(int[] byHour) {
        int hour = Math.floorMod(hoursGone, DAY);
        return hour < byHour.length ? byHour[hour] : 0;
    }

    private int findHeads() {
        noteOpenPipes();
        int done = 0;
        boolean isDone = false;
        while (done < MOST_SWEEPS && !isDone) {
            isDone = !changesMuchBySweep();
            done++;
        }
        return done;
    }

    /** No pipe opens or closes between sweeps, so it is looked up once for all of them. */
    private void noteOpenPipes() {
        for (int i = 0; i < pipes.size(); i++) {
            Pipe pipe = pipes.get(i);
            pipe.carries = pipe.isOpen();
        }
    }

    private boolean changesMuchBySweep() {
        boolean changesMuch = false;
        for (int i = 0; i < junctions.size(); i++) {
            Junction junction = junctions.get(i);
            Whole before = junction.head;
            junction.findHeadByPipes(sum);
            changesMuch |= sum.isGreaterWith(-1, before) || before.isGreaterWith(-1, sum);
            junction.head.setTo(sum);
        }
        return changesMuch;
    }

    private void letWaterFlow() {
        for (int i = 0; i < pipes.size(); i++) {
            pipes.get(i).letFlow();
        }
    }

    private void giveToJunctions() {
        for (int i = 0; i < junctions.size(); i++) {
            Junction junction = junctions.get(i);
            junction.isDry = junction.lacksPressure();
            junction.got = junction.isDry ? 0 : junction.demandNow;
            junction.loseByLeak();
            waterUsed.addTimes(junction.leaked, 1, junction.got);
        }
    }

    private void payForPumps() {
        int tariff = ofThisHour(tariffs);
        for (int i = 0; i < pipes.size(); i++) {
            Pipe pumped = pipes.get(i);
            if (pumped.isOn) {
                pumpCost += pumped.ranBefore ? tariff : tariff + START_COST;
            }
            pumped.ranBefore = pumped.isOn;
        }
    }

    private void fillTanks() {
        for (int i = 0; i < tanks.size(); i++) {
            tanks.get(i).fill();
        }
    }

    /** In two rounds, as each junction gets what its neighbours had ahead of the hour. */
    private void mixWater() {
        for (int i = 0; i < junctions.size(); i++) {
            junctions.get(i).mixInflow(sum, part);
        }
        for (int i = 0; i < junctions.size(); i++) {
            Junction junction = junctions.get(i);
            junction.mix.setTo(junction.next);
            junction.mix.growOlder();
        }
    }

    private void countByMeters() {
        for (int i = 0; i < junctions.size(); i++) {
            Junction junction = junctions.get(i);
            junction.meter.count(junction.got);
        }
    }

    // ---- fire

    private void keepHeads() {
        for (int i = 0; i < junctions.size(); i++) {
            Junction junction = junctions.get(i);
            junction.kept.setTo(junction.head);
        }
    }

    private void bringHeadsBack() {
        for (int i = 0; i < junctions.size(); i++) {
            Junction junction = junctions.get(i);
            junction.head.setTo(junction.kept);
        }
    }

    private void noteWhoIsDryAnyway() {
        for (int i = 0; i < junctions.size(); i++) {
            Junction junction = junctions.get(i);
            junction.isDryAnyway = junction.lacksPressure();
        }
    }

    private int greatestFireDemand(Junction hydrant) {
        for (int more = 1; more <= MOST_DEMAND; more++) {
            hydrant.demandNow++;
            bringHeadsBack();
            findHeads();
            if (isOneMoreDry()) {
                return more - 1;
            }
        }
        return MOST_DEMAND;
    }

    private boolean isOneMoreDry() {
        for (int i = 0; i < junctions.size(); i++) {
            Junction junction = junctions.get(i);
            if (junction.lacksPressure() && !junction.isDryAnyway) {
                return true;
            }
        }
        return false;
    }

    // ---- breaks and means

    private int setSize(int pipe) {
        int size = search.chooseSet(pipeAt(pipe), ends);
        if (size < 0) {
            throw new NoSuchElementException("no set shuts the pipe off");
        }
        return size;
    }

    private int countCutOff() {
        int count = 0;
        for (int i = 0; i < junctions.size(); i++) {
            if (!search.reachesTank(junctions.get(i), Search.AS_IT_IS)) {
                count++;
            }
        }
        return count;
    }

    // ---- the net

    /** What hangs together by ends of pipes: a node or a pipe. */
    private abstract static class Place {
        final ArrayList<End> ends = new ArrayList<End>();
        boolean isReached;
        End cameBy;
    }

    private abstract static class Node extends Place {
        final int height;
        final Mix mix;
        final Whole head = new Whole();

        Node(int height, Mix mix) {
            this.height = height;
            this.mix = mix;
            head.setTo(height);
        }

        /** Adds what flowed in, less what flowed out, in the last hour. */
        final void addInflowTo(Whole sum) {
            for (int i = 0; i < ends.size(); i++) {
                End end = ends.get(i);
                sum.addTimes(end.pipe.flowed, end.isSecond() ? 1 : -1, 0);
            }
        }
    }

    private static final class Tank extends Node {
        final int area;
        final Whole held = new Whole();

        Tank(int height, int area, int water) {
            super(height, new Mix(MOST_QUALITY));
            this.area = area;
            held.setTo(water);
            setHead();
        }

        void fill() {
            addInflowTo(held);
            if (held.isBelowZero()) {
                held.setTo(0);
            }
            setHead();
        }

        private void setHead() {
            head.setTo((long) height * area);
            head.addTimes(held, 1, 0);
            head.divideDown(area);
        }

        boolean isLevelBelow(int mark) {
            return head.nearestLong() < (long) height + mark;
        }

        boolean isLevelAbove(int mark) {
            return head.nearestLong() > (long) height + mark;
        }
    }

    private static final class Junction extends Node {
        final int demand;
        final Meter meter = new Meter();
        final Mix next = new Mix(0);
        final Whole kept = new Whole();
        int demandNow;
        int leak;
        int district;
        boolean isDry;
        boolean isDryAnyway;
        int got;
        final Whole leaked = new Whole();

        Junction(int height, int demand) {
            super(height, new Mix(0));
            this.demand = demand;
        }

        boolean lacksPressure() {
            return head.nearestLong() < height;
        }

        /** A half goes to the even neighbour, as Math.rint does it. */
        void findTensOfPressure(Whole tens) {
            tens.setTo(-height);
            tens.addTimes(head, 1, 0);
            long rest = tens.divideDown(10);
            if (rest > 5 || rest == 5 && tens.isOdd()) {
                tens.increaseBy(1);
            }
        }

        void findHeadByPipes(Whole found) {
            int widths = 0;
            found.setTo(-10L * demandNow);
            for (int i = 0; i < ends.size(); i++) {
                End end = ends.get(i);
                Pipe pipe = end.pipe;
                if (pipe.pulls()) {
                    long lift = end.isSecond() ? pipe.lift : -pipe.lift;
                    found.addTimes(end.nodeBeyond().head, pipe.width, lift * pipe.width);
                    widths += pipe.width;
                }
            }
            if (widths == 0) {
                found.setTo(height);
            } else {
                found.divideDown(widths);
            }
            if (found.nearestLong() < height - DEEPEST) {
                found.setTo(height - DEEPEST);
            }
        }

        void loseByLeak() {
            leaked.setTo(0);
            if (!isDry) {
                leaked.addTimes(head, leak, -height * leak);
                leaked.divideDown(10);
            }
        }

        void mixInflow(Whole all, Whole part) {
            all.setTo(0);
            for (int i = 0; i < ends.size(); i++) {
                End end = ends.get(i);
                if (end.hasInflow()) {
                    all.addTimes(end.pipe.flowed, end.isSecond() ? 1 : -1, 0);
                }
            }
            if (!all.isAboveZero()) {
                next.setTo(mix);
                return;
            }
            findInflowOf('a', part);
            next.age = part.takeOut(all);
            findInflowOf('c', part);
            next.chlorine = part.takeOut(all);
            findInflowOf('f', part);
            next.dirt = part.takeOut(all);
        }

        private void findInflowOf(char what, Whole found) {
            found.setTo(0);
            for (int i = 0; i < ends.size(); i++) {
                End end = ends.get(i);
                if (end.hasInflow()) {
                    int there = end.nodeBeyond().mix.of(what);
                    found.addTimes(end.pipe.flowed, end.isSecond() ? there : -there, 0);
                }
            }
        }
    }

    private static final class Pipe extends Place {
        final Node first;
        final Node second;
        final int width;
        final boolean isOneWay;
        final boolean hasPump;
        final int lift;
        boolean isOn;
        boolean isBroken;
        boolean ranBefore;
        boolean carries;
        Tank ruleTank;
        int lowMark;
        int highMark;
        final Whole flowed = new Whole();

        Pipe(Node first, Node second, int width, char kind, int lift) {
            this.first = first;
            this.second = second;
            this.width = width;
            this.isOneWay = kind != '-';
            this.hasPump = kind == 'p';
            this.lift = lift;
        }

        boolean isOpen() {
            if (isBroken || hasPump && !isOn) {
                return false;
            }
            for (int i = 0; i < ends.size(); i++) {
                if (!ends.get(i).isOpen) {
                    return false;
                }
            }
            return true;
        }

        boolean pulls() {
            return carries && (!isOneWay || first.head.isGreaterWith(lift, second.head));
        }

        void letFlow() {
            flowed.setTo(0);
            if (pulls()) {
                flowed.addTimes(first.head, width, lift * width);
                flowed.addTimes(second.head, -width, 0);
                flowed.divideTowardZero(10);
            }
        }
    }

    /** Where a pipe and a node meet, with a valve or without. */
    private static final class End {
        final Pipe pipe;
        final Node node;
        final boolean hasValve;
        boolean isOpen = true;
        boolean isStuck;
        /** Whether the set to shut has it; only of meaning while that set is in use. */
        boolean isChosen;
        /** Ways to tanks that go over it from the pipe to the node, less those the other way round. */
        int ways;

        End(Pipe pipe, Node node, boolean hasValve) {
            this.pipe = pipe;
            this.node = node;
            this.hasValve = hasValve;
        }

        boolean isSecond() {
            return node == pipe.second;
        }

        Node nodeBeyond() {
            return isSecond() ? pipe.first : pipe.second;
        }

        boolean hasInflow() {
            return isSecond() ? pipe.flowed.isAboveZero() : pipe.flowed.isBelowZero();
        }

        boolean canBeShut() {
            return hasValve && isOpen && !isStuck;
        }

        Place otherThan(Place place) {
            return place == pipe ? node : pipe;
        }

        boolean letsGo(Place from, int how) {
            if (!isOpen) {
                return false;
            }
            boolean canBeShut = hasValve && !isStuck;
            if (how == Search.PAST_NO_VALVE) {
                return !canBeShut;
            }
            if (how == Search.WITHOUT_CHOSEN) {
                return !isChosen;
            }
            if (how == Search.BY_FREE_WAYS) {
                boolean isFull = canBeShut && (from == pipe ? ways > 0 : ways < 0);
                return !isChosen && !isFull;
            }
            return true;
        }
    }

    // ---- quality

    private static final class Mix {
        int age;
        int chlorine;
        int dirt;

        Mix(int chlorine) {
            this.chlorine = chlorine;
        }

        int of(char what) {
            if (what == 'a') {
                return age;
            }
            return what == 'c' ? chlorine : dirt;
        }

        void setTo(Mix other) {
            age = other.age;
            chlorine = other.chlorine;
            dirt = other.dirt;
        }

        void growOlder() {
            age = Math.min(age + 1, MOST_QUALITY);
            chlorine -= chlorine / 10;
        }
    }

    // ---- meters

    private static final class Meter {
        int pace = WHOLE;
        int total;
        int lastCount;
        final Whole billedUpTo = new Whole();
        final Whole lastBill = new Whole();
        final Whole secondLastBill = new Whole();
        final Whole thirdLastBill = new Whole();
        int bills;

        void count(int got) {
            lastCount = got * pace / 100;
            total += lastCount;
        }

        void charge(boolean isRead, Whole due) {
            if (isRead) {
                due.setTo(total);
                due.addTimes(billedUpTo, -1, 0);
            } else {
                guess(due);
            }
            // By a guess the reading counts as what makes the guess right.
            billedUpTo.addTimes(due, 1, 0);
            thirdLastBill.setTo(secondLastBill);
            secondLastBill.setTo(lastBill);
            lastBill.setTo(due);
            bills = Math.min(bills + 1, 3);
        }

        private void guess(Whole due) {
            due.setTo(lastBill);
            due.addTimes(secondLastBill, 1, 0);
            due.addTimes(thirdLastBill, 1, 0);
            due.divideDown(bills);
        }
    }

    // ---- breaks

    /**
     * Finds parts of the net, and the fewest valves round a pipe: they are as many as there are ways from
     * the pipe to tanks of which no two share a valve.
     */
    private static final class Search {
        static final int AS_IT_IS = 0;
        static final int PAST_NO_VALVE = 1;
        static final int WITHOUT_CHOSEN = 2;
        static final int BY_FREE_WAYS = 3;
        private static final int MOST_PLACES = MOST_NODES + MOST_PIPES;
        private static final int MOST_ENDS = 2 * MOST_PIPES;

        private final ArrayList<Place> reached = new ArrayList<Place>();

        boolean reachesTank(Place start, int how) {
            return nearestTank(start, how) != null;
        }

        /** Chooses the set to shut; returns how many valves it has, or -1 if there is none. */
        int chooseSet(Pipe pipe, ArrayList<End> ends) {
            for (int i = 0; i < ends.size(); i++) {
                ends.get(i).isChosen = false;
            }
            if (reachesTank(pipe, PAST_NO_VALVE)) {
                return -1;
            }
            int size = countWays(pipe, ends);
            int left = size;
            for (int i = 0; i < ends.size() && left > 0; i++) {
                End end = ends.get(i);
                // A valve that no way goes over is in no smallest set.
                if (end.canBeShut() && end.ways != 0) {
                    end.isChosen = true;
                    int rest = countWays(pipe, ends);
                    end.isChosen = rest < left;
                    left = rest;
                }
            }
            return size;
        }

        boolean isSetRight(Pipe pipe, ArrayList<End> ends) {
            if (chooseSet(pipe, ends) < 0) {
                return true;
            }
            if (reachesTank(pipe, WITHOUT_CHOSEN)) {
                return false;
            }
            for (int i = 0; i < ends.size(); i++) {
                if (ends.get(i).isChosen && canBeSpared(pipe, ends.get(i))) {
                    return false;
                }
            }
            return true;
        }

        private boolean canBeSpared(Pipe pipe, End end) {
            end.isChosen = false;
            boolean isStillShutOff = !reachesTank(pipe, WITHOUT_CHOSEN);
            end.isChosen = true;
            return isStillShutOff;
        }

        private int countWays(Pipe pipe, ArrayList<End> ends) {
            for (int i = 0; i < ends.size(); i++) {
                ends.get(i).ways = 0;
            }
            int count = 0;
            Tank goal = nearestTank(pipe, BY_FREE_WAYS);
            while (goal != null && count < MOST_ENDS) {
                addWay(pipe, goal);
                count++;
                goal = nearestTank(pipe, BY_FREE_WAYS);
            }
            return count;
        }

        private void addWay(Pipe pipe, Tank goal) {
            Place at = goal;
            for (int i = 0; i < MOST_PLACES && at != pipe && at.cameBy != null; i++) {
                End end = at.cameBy;
                end.ways += at == end.node ? 1 : -1;
                at = end.otherThan(at);
            }
        }

        private Tank nearestTank(Place start, int how) {
            forgetReached();
            reach(start, null);
            for (int i = 0; i < MOST_PLACES && i < reached.size(); i++) {
                Place at = reached.get(i);
                if (at instanceof Tank found) {
                    return found;
                }
                goOnFrom(at, how);
            }
            return null;
        }

        private void goOnFrom(Place at, int how) {
            for (int i = 0; i < at.ends.size(); i++) {
                End end = at.ends.get(i);
                Place next = end.otherThan(at);
                if (!next.isReached && end.letsGo(at, how)) {
                    reach(next, end);
                }
            }
        }

        private void reach(Place place, End by) {
            place.isReached = true;
            place.cameBy = by;
            reached.add(place);
        }

        private void forgetReached() {
            for (int i = 0; i < reached.size(); i++) {
                reached.get(i).isReached = false;
            }
            reached.clear();
        }
    }

    // ---- whole numbers

    /**
     * A whole number without bounds, as water that swings between small tanks grows twentyfold in an hour. It is the
     * sum of its digits, each times a power of 2 ^ 48. They are 0 or greater but for the last one, which alone tells the
     * sign, and is neither 0 nor -1 if it is not the only one. 2000 hours come to 190 digits at most.
     */
    private static final class Whole {
        private static final int BITS = 48;
        private static final long MOST_DIGIT = (1L << BITS) - 1;
        private static final long MOST_LAST_IN_LONG = (1L << 15) - 1;
        /** As many bits as round a double right, and room in a long for one more. */
        private static final long ENOUGH_FOR_DOUBLE = 1L << 60;
        private static final int MORE_BITS = 96;

        private long[] digits = new long[2];
        private int length = 1;

        void setTo(long value) {
            put(0, value & MOST_DIGIT);
            put(1, value >> BITS);
            cutTo(2);
        }

        void setTo(Whole other) {
            for (int i = 0; i < other.length; i++) {
                put(i, other.at(i));
            }
            length = other.length;
        }

        void increaseBy(long more) {
            addTimes(this, 0, more);
        }

        /** Adds another number some times, at most 1023 or as many below 0, and something more. */
        void addTimes(Whole other, int times, long more) {
            int most = Math.max(length, other.length);
            long carry = more;
            for (int i = 0; i < most; i++) {
                carry += at(i) + other.at(i) * times;
                if (most == 1 && Math.abs(carry) <= MOST_DIGIT) {
                    // So it is with nearly all numbers, and there is nothing to carry.
                    put(0, carry);
                    return;
                }
                put(i, carry & MOST_DIGIT);
                carry >>= BITS;
            }
            put(most, carry);
            cutTo(most + 1);
        }

        /** Returns the rest; nothing is done by a divisor that is not above 0. */
        long divideDown(int by) {
            long rest = 0;
            if (by <= 0) {
                return rest;
            }
            for (int i = length - 1; i >= 0; i--) {
                long left = (rest << BITS) + at(i);
                long digit = Math.floorDiv(left, (long) by);
                rest = left - digit * by;
                put(i, digit);
            }
            cutTo(length);
            return rest;
        }

        void divideTowardZero(int by) {
            if (isBelowZero()) {
                addTimes(this, 0, by - 1);
            }
            divideDown(by);
        }

        /** Takes another one, greater than 0, as often as it can be, at most 1023 times; returns how often. */
        int takeOut(Whole other) {
            int taken = 0;
            for (int times = 512; times > 0; times /= 2) {
                addTimes(other, -times, 0);
                if (isBelowZero()) {
                    addTimes(other, times, 0);
                } else {
                    taken += times;
                }
            }
            return taken;
        }

        boolean isBelowZero() {
            return at(length - 1) < 0;
        }

        boolean isAboveZero() {
            return at(length - 1) > 0;
        }

        boolean isOdd() {
            return (at(0) & 1) != 0;
        }

        /** Whether it is greater than another one, if something more is added to it. */
        boolean isGreaterWith(long more, Whole other) {
            int most = Math.max(length, other.length);
            boolean differs = false;
            long carry = more;
            for (int i = 0; i < most; i++) {
                carry += at(i) - other.at(i);
                differs |= (carry & MOST_DIGIT) != 0;
                carry >>= BITS;
            }
            return carry > 0 || carry == 0 && differs;
        }

        long nearestLong() {
            long last = at(length - 1);
            if (length == 1) {
                return last;
            }
            if (length == 2 && last <= MOST_LAST_IN_LONG && last >= -MOST_LAST_IN_LONG - 1) {
                return (last << BITS) + at(0);
            }
            return last < 0 ? Long.MIN_VALUE : Long.MAX_VALUE;
        }

        int nearestInt() {
            return (int) Math.max(Integer.MIN_VALUE, Math.min(nearestLong(), Integer.MAX_VALUE));
        }

        /** Returns the double that is nearest to the quotient; what is left of the number is of no use any more. */
        double takeMean(int by) {
            if (length == 1) {
                return (double) at(0) / (double) by;
            }
            // More bits first, so that those of the quotient are enough to round it right.
            for (int i = 0; i < MORE_BITS; i++) {
                addTimes(this, 1, 0);
            }
            boolean hasMore = divideDown(by) != 0;
            int left = (length - 1) * BITS;
            long taken = at(length - 1);
            while (left > 0 && Math.abs(taken) < ENOUGH_FOR_DOUBLE) {
                left--;
                taken = 2 * taken + bit(left);
            }
            // One bit stands for all that is left: that can change no more than which way a half is rounded.
            double mean = (double) (hasMore || hasBitsBelow(left) ? taken | 1 : taken);
            for (int i = MORE_BITS; i < left; i++) {
                mean *= 2;
            }
            for (int i = left; i < MORE_BITS; i++) {
                mean /= 2;
            }
            return mean;
        }

        private long bit(int place) {
            return (at(place / BITS) >> place % BITS) & 1;
        }

        private boolean hasBitsBelow(int place) {
            for (int i = 0; i < place; i++) {
                if (bit(i) != 0) {
                    return true;
                }
            }
            return false;
        }

        private long at(int place) {
            return place >= 0 && place < length && place < digits.length ? digits[place] : 0;
        }

        private void put(int place, long digit) {
            if (place >= digits.length) {
                digits = Arrays.copyOf(digits, 2 * place);
            }
            if (place >= 0 && place < digits.length) {
                digits[place] = digit;
            }
        }

        /** A last digit of 0 or -1 goes into the one ahead of it. */
        private void cutTo(int most) {
            length = Math.min(most, digits.length);
            for (int i = length - 1; i > 0 && (digits[i] == 0 || digits[i] == -1); i--) {
                digits[i - 1] += digits[i] << BITS;
                length = i;
            }
        }
    }
}
