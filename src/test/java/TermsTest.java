import java.io.IOException;
import java.util.ArrayList;
import java.util.List;

/** The terms of the document, sentence by sentence. */
public final class TermsTest extends Sentences {
    private static final String[] PARTS = {"Use", "Terms", "Net", "Heads", "Flows", "Hours", "Quality", "Breaks",
        "Meters", "Exceptions"};

    public static void main(String[] args) throws IOException {
        Said.begin();
        use();
        water();
        fewestValves();
        nodes();
        tanks();
        pipes();
        kindsOfPipes();
        openPipes();
        headsAtFirst();
        sweep();
        bounds();
        pulling();
        endOfSweeps();
        flows();
        dryOrGot();
        rules();
        costs();
        tanksFill();
        orderOfAnHour();
        hoursOfTheDay();
        qualityAtFirst();
        qualityOfTanks();
        qualityOfInflow();
        qualityKept();
        lossesOfAnHour();
        breaks();
        parts();
        sets();
        cutOff();
        meters();
        bills();
        districts();
        exceptionsChangeNothing();
        firstOfSeveralExceptions();
        int parts = Document.parts().size();
        Due.is("parts of the document: these and 39 promises", PARTS.length + 39, () -> parts);
        Said.end(PARTS);
    }

    /** A tank with the head 100 that hardly sinks, over a junction at the height 0, by pipe 0, 4 wide. */
    private static Valvekeeper line(int demand, int valves) {
        Valvekeeper x = new Valvekeeper();
        x.tank(100, 50, 0);
        x.junction(0, demand);
        x.pipe(0, 1, 4, '-', 0, valves);
        return x;
    }

    /** A tank of this head, a junction of this height and demand, and a pipe 1 wide from the one to the other. */
    private static Valvekeeper fall(int head, int height, int demand) {
        Valvekeeper x = new Valvekeeper();
        x.tank(head, 50, 0);
        x.junction(height, demand);
        x.pipe(0, 1, 1, '-', 0, 0);
        x.pass(1);
        return x;
    }

    private static void use() {
        Said.part("Use");
        says("An object is used for at most 512 calls after it has been made; what later calls answer is free.");
        Valvekeeper x = new Valvekeeper();
        x.junction(0, 1);
        for (int i = 0; i < 510; i++) {
            x.pass(1);
        }
        is(510, () -> x.reading(0));
    }

    private static void water() {
        Said.part("Terms");
        says("Water is neither made nor lost,");
        Valvekeeper x = new Valvekeeper();
        x.tank(120, 50, 5000);
        x.junction(30, 20);
        x.junction(60, 35);
        x.junction(10, 0);
        x.tank(40, 30, 900);
        x.pipe(0, 1, 3, '-', 0, 0);
        x.pipe(1, 2, 4, '-', 0, 0);
        x.pipe(2, 3, 2, '>', 0, 0);
        x.pipe(3, 4, 5, '-', 0, 0);
        x.pipe(4, 1, 2, 'p', 80, 0);
        x.setLeak(1, 2);
        x.setLeak(3, 3);
        x.pump(4, true);
        for (int hour = 0; hour < 24; hour++) {
            long ahead = x.water(0) + x.water(4) + x.used();
            x.pass(1);
            is(ahead, () -> x.water(0) + x.water(4) + x.used() + x.excess(1) + x.excess(2) + x.excess(3));
        }
        is(true, () -> x.water(0) > 0 && x.water(4) > 0);
    }

    /** A net of 6 pipes with 11 valves, of which 2 are stuck. */
    private static Valvekeeper mesh() {
        Valvekeeper x = new Valvekeeper();
        x.tank(0, 1, 0);
        x.junction(0, 0);
        x.junction(0, 0);
        x.junction(0, 0);
        x.tank(0, 1, 0);
        x.pipe(1, 2, 1, '-', 0, 3);
        x.pipe(2, 3, 1, '>', 0, 3);
        x.pipe(0, 1, 1, '-', 0, 3);
        x.pipe(2, 0, 1, 'p', 1, 3);
        x.pipe(3, 4, 1, '-', 0, 1);
        x.pipe(1, 3, 1, '-', 0, 2);
        x.stick(0, true, true);
        x.stick(5, true, true);
        return x;
    }

    private static void fewestValves() {
        says("and no other set of valves that shuts a break off is smaller.");
        for (int i = 0; i < 6; i++) {
            int pipe = i;
            List<Integer> due = firstOfTheSmallest(pipe);
            Valvekeeper x = mesh();
            is(due == null ? Due.NO_ELEMENT : due.size(), () -> x.toShut(pipe));
            for (int at = 0; due != null && at < due.size(); at++) {
                int index = at;
                is(due.get(at), () -> x.toShutAt(pipe, index));
            }
        }
    }

    /** By shutting each set of valves in a city of its own; null if none shuts the pipe off. */
    private static List<Integer> firstOfTheSmallest(int pipe) {
        List<Integer> best = null;
        for (int set = 0; set < 1 << 12; set++) {
            List<Integer> valves = new ArrayList<>();
            Valvekeeper x = mesh();
            boolean isTurned = true;
            for (int valve = 0; valve < 12; valve++) {
                if ((set >> valve & 1) != 0) {
                    valves.add(valve);
                    int at = valve;
                    String answer = Twin.answer(x, y -> y.valve(at / 2, at % 2 == 1, false));
                    isTurned = isTurned && answer.equals("true");
                }
            }
            if (isTurned && x.isShutOff(pipe) && (best == null || isAhead(valves, best))) {
                best = valves;
            }
        }
        return best;
    }

    private static boolean isAhead(List<Integer> one, List<Integer> other) {
        if (one.size() != other.size()) {
            return one.size() < other.size();
        }
        for (int i = 0; i < one.size(); i++) {
            if (!one.get(i).equals(other.get(i))) {
                return one.get(i) < other.get(i);
            }
        }
        return false;
    }

    private static void nodes() {
        Said.part("Net");
        says("At most 16 nodes are numbered from 0,");
        Valvekeeper x = new Valvekeeper();
        for (int i = 0; i < 16; i++) {
            int node = i;
            is(Due.INDEX, () -> x.head(node));
            is(i, () -> node % 2 == 0 ? x.junction(0, 0) : x.tank(0, 1, 0));
            is(0, () -> x.head(node));
        }
        are(Due.STATE, () -> x.junction(0, 0), () -> x.tank(0, 1, 0));
        is(Due.INDEX, () -> x.head(16));
        says("each with a height, 0 to 200,");
        Valvekeeper y = new Valvekeeper();
        are(Due.ARGUMENT, () -> y.junction(-1, 0), () -> y.junction(201, 0), () -> y.tank(-1, 1, 0),
            () -> y.tank(201, 1, 0));
        is(0, () -> y.junction(0, 0));
        is(1, () -> y.junction(200, 0));
        is(2, () -> y.tank(0, 1, 0));
        is(3, () -> y.tank(200, 1, 0));
        are(0, () -> y.head(0), () -> y.head(2));
        are(200, () -> y.head(1), () -> y.head(3));
        says("and, if it is a junction, a demand for each hour, 0 to 99;");
        Valvekeeper z = new Valvekeeper();
        are(Due.ARGUMENT, () -> z.junction(0, -1), () -> z.junction(0, 100));
        is(0, () -> z.junction(0, 0));
        is(1, () -> z.junction(0, 99));
        z.pass(3);
        is(0, () -> z.reading(0));
        is(297, () -> z.reading(1));
    }

    private static void tanks() {
        says("a tank has an area, 1 to 50,");
        Valvekeeper x = new Valvekeeper();
        are(Due.ARGUMENT, () -> x.tank(0, 0, 0), () -> x.tank(0, 51, 0), () -> x.tank(0, -1, 0));
        is(0, () -> x.tank(0, 1, 9999));
        is(1, () -> x.tank(0, 50, 9999));
        is(9999, () -> x.head(0));
        is(199, () -> x.head(1));
        says("and water in it,");
        are(9999, () -> x.water(0), () -> x.water(1));
        is(2, () -> x.tank(0, 1, 0));
        is(0, () -> x.water(2));
        says("its level being that water divided by the area, rounded down,");
        int[] water = {0, 6, 7, 13, 14};
        int[] levels = {0, 0, 1, 1, 2};
        for (int i = 0; i < water.length; i++) {
            int at = i;
            Valvekeeper y = new Valvekeeper();
            y.tank(0, 7, water[i]);
            is(levels[i], () -> y.head(0));
            // The level that rules look at is the same one: at least 1 is not less than the mark 1.
            y.junction(0, 0);
            y.pipe(0, 1, 1, 'p', 1, 0);
            y.broke(0, true);
            y.rule(0, 0, 1, 999);
            y.pass(1);
            is(levels[at] < 1, () -> y.pump(0, false));
        }
        says("and its head the height plus the level.");
        Valvekeeper z = new Valvekeeper();
        z.tank(200, 7, 13);
        z.tank(0, 50, 49);
        z.tank(200, 1, 9999);
        is(201, () -> z.head(0));
        is(0, () -> z.head(1));
        is(10199, () -> z.head(2));
    }

    private static void pipes() {
        says("At most 24 pipes are numbered from 0,");
        Valvekeeper x = new Valvekeeper();
        x.tank(100, 50, 0);
        x.junction(0, 0);
        for (int i = 0; i < 24; i++) {
            int pipe = i;
            is(Due.INDEX, () -> x.flow(pipe));
            is(i, () -> x.pipe(0, 1, 1, '-', 0, 0));
            is(0, () -> x.flow(pipe));
        }
        is(Due.STATE, () -> x.pipe(0, 1, 1, '-', 0, 0));
        is(Due.INDEX, () -> x.flow(24));
        says("each between two unlike nodes, a first and a second one,");
        Valvekeeper y = new Valvekeeper();
        y.tank(10, 50, 0);
        y.tank(0, 50, 0);
        y.junction(0, 0);
        are(Due.ARGUMENT, () -> y.pipe(0, 0, 1, '-', 0, 0), () -> y.pipe(2, 2, 1, '>', 0, 0));
        is(0, () -> y.pipe(0, 1, 1, '-', 0, 0));
        is(1, () -> y.pipe(1, 0, 1, '-', 0, 0));
        y.pass(1);
        is(1, () -> y.flow(0));
        is(-1, () -> y.flow(1));
        says("with a width, 1 to 9,");
        Valvekeeper z = new Valvekeeper();
        z.tank(100, 50, 0);
        z.tank(0, 50, 0);
        are(Due.ARGUMENT, () -> z.pipe(0, 1, 0, '-', 0, 0), () -> z.pipe(0, 1, 10, '-', 0, 0));
        is(0, () -> z.pipe(0, 1, 1, '-', 0, 0));
        is(1, () -> z.pipe(0, 1, 9, '-', 0, 0));
        z.pass(1);
        is(10, () -> z.flow(0));
        is(90, () -> z.flow(1));
        says("and perhaps a valve at each end;");
        boolean[][] has = {{false, false}, {true, false}, {false, true}, {true, true}};
        for (int valves = 0; valves < 4; valves++) {
            Valvekeeper v = line(0, valves);
            is(has[valves][0] ? true : Due.NO_ELEMENT, () -> v.valve(0, false, true));
            is(has[valves][1] ? true : Due.NO_ELEMENT, () -> v.valve(0, true, true));
        }
        are(Due.ARGUMENT, () -> z.pipe(0, 1, 1, '-', 0, -1), () -> z.pipe(0, 1, 1, '-', 0, 4));
    }

    private static void kindsOfPipes() {
        says("some let water go from the first one to the second one alone;");
        Valvekeeper x = new Valvekeeper();
        x.tank(100, 50, 0);
        x.tank(0, 50, 0);
        x.pipe(0, 1, 1, '>', 0, 0);
        x.pipe(1, 0, 1, '>', 0, 0);
        x.pipe(1, 0, 1, '-', 0, 0);
        x.pass(1);
        is(10, () -> x.flow(0));
        is(0, () -> x.flow(1));
        is(-10, () -> x.flow(2));
        says("some have a pump, with a lift, 1 to 99,");
        Valvekeeper y = new Valvekeeper();
        y.tank(50, 50, 0);
        y.tank(50, 50, 0);
        are(Due.ARGUMENT, () -> y.pipe(0, 1, 9, 'p', 0, 0), () -> y.pipe(0, 1, 9, 'p', 100, 0),
            () -> y.pipe(0, 1, 9, 'p', -1, 0));
        is(0, () -> y.pipe(0, 1, 9, 'p', 99, 0));
        is(1, () -> y.pipe(0, 1, 9, 'p', 1, 0));
        y.tank(60, 50, 0);
        is(2, () -> y.pipe(2, 1, 1, 'p', 1, 0));
        for (int pipe = 0; pipe < 3; pipe++) {
            y.pump(pipe, true);
        }
        y.pass(1);
        is(89, () -> y.flow(0));
        // 9 * 1 / 10 and 1 * (10 + 1) / 10.
        is(0, () -> y.flow(1));
        is(1, () -> y.flow(2));
        says("which lets water go in this way alone,");
        Valvekeeper z = new Valvekeeper();
        z.tank(0, 50, 0);
        z.tank(100, 50, 0);
        z.pipe(0, 1, 9, 'p', 80, 0);
        z.pipe(1, 0, 9, 'p', 80, 0);
        z.pump(0, true);
        z.pump(1, true);
        z.pass(1);
        is(0, () -> z.flow(0));
        is(162, () -> z.flow(1));
        says("and if it is on.");
        z.pump(1, false);
        z.pass(1);
        is(0, () -> z.flow(1));
    }

    private static void openPipes() {
        says("A valve is open, as at first, or shut,");
        Valvekeeper x = line(4, 3);
        x.pass(1);
        is(4, () -> x.flow(0));
        is(true, () -> x.valve(0, true, false));
        x.pass(1);
        is(0, () -> x.flow(0));
        is(true, () -> x.valve(0, true, true));
        x.pass(1);
        is(4, () -> x.flow(0));
        says("and may be stuck as it is.");
        x.stick(0, true, true);
        is(false, () -> x.valve(0, true, false));
        is(true, () -> x.valve(0, true, true));
        x.valve(0, false, false);
        x.stick(0, false, true);
        is(false, () -> x.valve(0, false, true));
        is(true, () -> x.valve(0, false, false));
        says("A pipe is open if it has no shut valve,");
        Valvekeeper y = line(4, 3);
        y.valve(0, false, false);
        y.pass(1);
        is(0, () -> y.flow(0));
        y.valve(0, true, false);
        y.valve(0, false, true);
        y.pass(1);
        is(0, () -> y.flow(0));
        y.valve(0, true, true);
        y.pass(1);
        is(4, () -> y.flow(0));
        says("is not broken,");
        y.broke(0, true);
        y.pass(1);
        is(0, () -> y.flow(0));
        says("and its pump, if it has one, is on.");
        Valvekeeper z = new Valvekeeper();
        z.tank(100, 50, 0);
        z.tank(0, 50, 0);
        z.pipe(0, 1, 1, 'p', 1, 0);
        z.pass(1);
        is(0, () -> z.flow(0));
        z.pump(0, true);
        z.pass(1);
        is(10, () -> z.flow(0));
    }

    private static void headsAtFirst() {
        Said.part("Heads");
        says("All heads of junctions are found by sweeps,");
        Valvekeeper x = fall(100, 60, 1);
        is(90, () -> x.head(1));
        is(true, () -> x.sweeps() > 0);
        says("from those that they had,");
        // Two junctions in a row up to a tank: 68 and 79 after seven sweeps; one sweep more makes 69 and 79 of them.
        Valvekeeper y = new Valvekeeper();
        y.junction(0, 1);
        y.junction(0, 1);
        y.tank(100, 50, 0);
        y.pipe(0, 1, 1, '-', 0, 0);
        y.pipe(1, 2, 1, '-', 0, 0);
        y.pass(1);
        is(68, () -> y.head(0));
        y.pass(1);
        is(69, () -> y.head(0));
        is(1, y::sweeps);
        says("their heights at first.");
        Valvekeeper z = new Valvekeeper();
        z.junction(40, 0);
        z.junction(200, 0);
        is(40, () -> z.head(0));
        is(200, () -> z.head(1));
        // From the height 50 to 51 is a change of 1, behind which no other sweep comes.
        is(1, () -> fall(51, 50, 0).sweeps());
    }

    private static void sweep() {
        says("In a sweep, each junction by rising numbers gets a new head at once, which those behind it see:");
        Valvekeeper x = new Valvekeeper();
        x.tank(100, 50, 0);
        for (int node = 1; node <= 3; node++) {
            x.junction(0, 0);
            x.pipe(node - 1, node, 1, '>', 0, 0);
        }
        x.pass(1);
        // Sweep 1: each one sees the one ahead of it: 100, 100, 100. Sweep 2: no pipe pulls: 0, 0, 0; and so on.
        is(60, x::sweeps);
        are(0, () -> x.head(1), () -> x.head(2), () -> x.head(3));
        Valvekeeper y = new Valvekeeper();
        y.tank(100, 50, 0);
        y.junction(0, 0);
        y.junction(0, 0);
        y.pipe(0, 1, 9, '-', 0, 0);
        y.pipe(1, 2, 9, '>', 0, 0);
        y.pass(1);
        // Sweeps: 100, 100; 100, 0; 50, 50; and again, twenty times.
        are(50, () -> y.head(1), () -> y.head(2));
        is(60, y::sweeps);
        Valvekeeper z = new Valvekeeper();
        z.junction(0, 0);
        z.junction(0, 0);
        z.tank(100, 50, 0);
        z.pipe(0, 1, 1, '-', 0, 0);
        z.pipe(1, 2, 1, '-', 0, 0);
        z.pass(1);
        // Sweeps: 0, 50; 50, 75; 75, 87; 87, 93; 93, 96; 96, 98; 98, 99; 99, 99.
        is(99, () -> z.head(0));
        is(99, () -> z.head(1));
        is(8, z::sweeps);
        says("of the open pipes at it that pull, the sum of the width times what is at the other end,");
        Valvekeeper w = new Valvekeeper();
        w.tank(100, 50, 0);
        w.tank(30, 50, 0);
        w.junction(0, 0);
        w.pipe(0, 2, 2, '-', 0, 0);
        w.pipe(1, 2, 5, '-', 0, 1);
        w.pipe(2, 1, 9, '>', 0, 0);
        w.broke(2, true);
        w.pass(1);
        // (2 * 100 + 5 * 30) / 7.
        is(50, () -> w.head(2));
        w.valve(1, false, false);
        w.pass(1);
        is(100, () -> w.head(2));
        says("which is the head there,");
        w.tank(30, 10, 209);
        w.pipe(2, 3, 2, '-', 0, 0);
        w.pass(1);
        // The tank 3 has the head 30 + 20: (2 * 100 + 2 * 50) / 4.
        is(75, () -> w.head(2));
        says("plus the lift for a pump that leads to it, less the lift for one that leads away from it;");
        Valvekeeper v = new Valvekeeper();
        v.tank(50, 50, 0);
        v.junction(0, 0);
        v.pipe(0, 1, 2, 'p', 30, 0);
        v.pipe(1, 0, 2, 'p', 60, 0);
        v.pump(0, true);
        v.pass(1);
        // It pulls in each second sweep alone, so that its sixtieth one ends at the height.
        is(0, () -> v.head(1));
        v.pump(1, true);
        v.pass(1);
        // (2 * (50 + 30) + 2 * (50 - 60)) / 4, and both pull then: 50 + 30 > 35 and 35 + 60 > 50.
        is(35, () -> v.head(1));
        is(2, v::sweeps);
    }

    private static void bounds() {
        says("10 times its demand of this hour taken off,");
        is(90, () -> fall(100, 0, 1).head(1));
        is(10, () -> fall(100, 0, 9).head(1));
        is(100, () -> fall(100, 0, 0).head(1));
        Valvekeeper x = line(8, 0);
        x.setPattern(0, 50);
        x.pass(1);
        // 4 of 8 are asked for in this hour: (400 - 40) / 4.
        is(90, () -> x.head(1));
        says("all divided by the sum of the widths, rounded down;");
        int[] widths = {1, 2, 3, 4, 7, 9};
        int[] heads = {-10, -5, -4, -3, -2, -2};
        int[] above = {10, 15, 16, 17, 18, 18};
        for (int i = 0; i < widths.length; i++) {
            Valvekeeper y = new Valvekeeper();
            y.tank(0, 50, 0);
            y.tank(20, 50, 0);
            y.junction(0, 1);
            y.junction(0, 1);
            y.pipe(0, 2, widths[i], '-', 0, 0);
            y.pipe(1, 3, widths[i], '-', 0, 0);
            y.pass(1);
            is(heads[i], () -> y.head(2));
            is(above[i], () -> y.head(3));
        }
        says("its height, if no pipe pulls;");
        Valvekeeper z = line(9, 1);
        z.junction(33, 99);
        z.pass(1);
        is(33, () -> z.head(2));
        is(77, () -> z.head(1));
        z.valve(0, false, false);
        z.pass(1);
        is(0, () -> z.head(1));
        says("at least its height less 100.");
        is(60, () -> fall(150, 150, 9).head(1));
        is(50, () -> fall(150, 150, 10).head(1));
        is(50, () -> fall(150, 150, 11).head(1));
        is(-100, () -> fall(0, 0, 99).head(1));
        is(100, () -> fall(0, 200, 0).head(1));
        is(100, () -> fall(99, 200, 0).head(1));
        is(100, () -> fall(100, 200, 0).head(1));
        is(101, () -> fall(101, 200, 0).head(1));
    }

    private static void pulling() {
        says("A pipe that lets water go in one way alone pulls if it would go so: the head at its first node, plus the "
            + "lift, is greater than that at its second one,");
        // The pipe leads to a junction at the height 40, whose head is 40 as long as it does not pull.
        is(40, () -> oneWay(40, '>', 0).head(1));
        is(41, () -> oneWay(41, '>', 0).head(1));
        is(40, () -> oneWay(39, '>', 0).head(1));
        is(40, () -> oneWay(39, '>', 99).head(1));
        is(40, () -> oneWay(10, 'p', 30).head(1));
        is(41, () -> oneWay(10, 'p', 31).head(1));
        is(40, () -> oneWay(10, 'p', 29).head(1));
        // It leads away from the junction: less the lift.
        is(40, () -> oneWayOut(40, '>', 0).head(1));
        is(39, () -> oneWayOut(39, '>', 0).head(1));
        is(40, () -> oneWayOut(41, '>', 0).head(1));
        is(40, () -> oneWayOut(70, 'p', 30).head(1));
        is(39, () -> oneWayOut(70, 'p', 31).head(1));
        is(40, () -> oneWayOut(70, 'p', 29).head(1));
        says("as they are then.");
        // It pulls in sweep 1, 3, .. 59, as the head is 0 then, and not in 2, 4, .. 60, as it is 50 then.
        Valvekeeper x = new Valvekeeper();
        x.tank(50, 50, 0);
        x.junction(0, 0);
        x.pipe(0, 1, 1, '>', 0, 0);
        x.pass(1);
        is(0, () -> x.head(1));
        is(60, x::sweeps);
    }

    private static Valvekeeper oneWay(int head, char kind, int lift) {
        Valvekeeper x = new Valvekeeper();
        x.tank(head, 50, 0);
        x.junction(40, 0);
        x.pipe(0, 1, 3, kind, lift, 0);
        turnOn(x, kind);
        x.pass(1);
        return x;
    }

    private static Valvekeeper oneWayOut(int head, char kind, int lift) {
        Valvekeeper x = new Valvekeeper();
        x.tank(head, 50, 0);
        x.junction(40, 0);
        x.pipe(1, 0, 3, kind, lift, 0);
        turnOn(x, kind);
        x.pass(1);
        return x;
    }

    private static void turnOn(Valvekeeper x, char kind) {
        if (kind == 'p') {
            x.pump(0, true);
        }
    }

    private static void endOfSweeps() {
        says("Sweeps end when one changes no head by more than 1,");
        is(1, () -> fall(20, 20, 0).sweeps());
        is(1, () -> fall(21, 20, 0).sweeps());
        is(1, () -> fall(19, 20, 0).sweeps());
        is(2, () -> fall(22, 20, 0).sweeps());
        is(2, () -> fall(18, 20, 0).sweeps());
        Valvekeeper x = new Valvekeeper();
        x.pass(1);
        is(1, x::sweeps);
        // One junction changes by 1, another one by 2: the greatest change counts, in either order.
        int[][] heights = {{21, 22}, {22, 21}};
        for (int[] both : heights) {
            Valvekeeper y = new Valvekeeper();
            y.tank(20, 50, 0);
            y.junction(both[0], 0);
            y.junction(both[1], 0);
            y.pipe(0, 1, 1, '-', 0, 0);
            y.pipe(0, 2, 1, '-', 0, 0);
            y.pass(1);
            is(2, y::sweeps);
        }
        says("or behind 60.");
        Valvekeeper z = new Valvekeeper();
        z.tank(22, 50, 0);
        z.junction(20, 0);
        z.pipe(0, 1, 1, '>', 0, 0);
        z.pass(1);
        is(60, z::sweeps);
        is(20, () -> z.head(1));
        z.pass(2);
        is(60, z::sweeps);
        says("The pressure of a junction is its head less its height.");
        is(4.0, () -> fall(100, 60, 0).meanPressure());
        is(-4.0, () -> fall(60, 100, 0).meanPressure());
    }

    /** What flows between two tanks of these heads. */
    private static int flow(int first, int second, int width, char kind, int lift) {
        Valvekeeper x = new Valvekeeper();
        x.tank(first, 50, 0);
        x.tank(second, 50, 0);
        x.pipe(0, 1, width, kind, lift, 0);
        turnOn(x, kind);
        x.pass(1);
        return x.flow(0);
    }

    private static void flows() {
        Said.part("Flows");
        says("What flows in an open pipe in an hour is its width times the difference of both heads,");
        is(180, () -> flow(200, 0, 9, '-', 0));
        is(20, () -> flow(200, 0, 1, '-', 0));
        is(0, () -> flow(77, 77, 9, '-', 0));
        says("with the lift of a pump added,");
        is(89, () -> flow(0, 0, 9, 'p', 99));
        is(90, () -> flow(1, 0, 9, 'p', 99));
        is(1, () -> flow(50, 41, 1, 'p', 1));
        is(0, () -> flow(50, 41, 1, '-', 1));
        says("divided by 10, toward 0,");
        int[] difference = {9, 10, 19, 20, 1};
        int[] due = {0, 1, 1, 2, 0};
        for (int i = 0; i < due.length; i++) {
            int d = difference[i];
            is(due[i], () -> flow(100 + d, 100, 1, '-', 0));
            is(-due[i], () -> flow(100, 100 + d, 1, '-', 0));
        }
        is(0, () -> flow(3, 0, 3, '-', 0));
        is(-1, () -> flow(0, 4, 3, '-', 0));
        says("from the first node to the second one, less than 0 the other way round;");
        is(10, () -> flow(100, 0, 1, '-', 0));
        is(-10, () -> flow(0, 100, 1, '-', 0));
        says("0 if it lets water go in one way alone, and would go the other way.");
        is(0, () -> flow(0, 100, 9, '>', 0));
        is(0, () -> flow(0, 200, 9, 'p', 99));
        is(0, () -> flow(0, 99, 9, 'p', 99));
        is(0, () -> flow(0, 98, 9, 'p', 99));
        is(90, () -> flow(100, 0, 9, '>', 0));
    }

    private static void dryOrGot() {
        says("A junction whose pressure is less than 0 is dry, and gets nothing;");
        // Of the demand 4, a width of 1 takes 40 off.
        Valvekeeper below = fall(100, 61, 4);
        Valvekeeper just = fall(100, 60, 4);
        is(true, () -> below.wasDry(1));
        is(0, () -> below.reading(1));
        is(0L, below::used);
        is(false, () -> just.wasDry(1));
        says("others get their demand,");
        is(4, () -> just.reading(1));
        is(4L, just::used);
        says("and lose a leak by their leak times the pressure, divided by 10, rounded down.");
        int[] leaks = {0, 1, 1, 1, 1, 3, 3, 50, 50, 50};
        int[] pressures = {100, 0, 9, 10, 19, 3, 4, 0, 1, 100};
        int[] lost = {0, 0, 0, 1, 1, 0, 1, 0, 5, 500};
        for (int i = 0; i < leaks.length; i++) {
            is((long) lost[i], leakedOf(100, 100 - pressures[i], leaks[i]));
        }
        // A dry one loses nothing.
        is(0L, leakedOf(100, 110, 50));
        is(0L, leakedOf(100, 101, 50));
    }

    private static long leaked(int head, int height, int leak) {
        Valvekeeper x = new Valvekeeper();
        x.tank(head, 50, 0);
        x.junction(height, 0);
        x.setLeak(1, leak);
        x.pipe(0, 1, 1, '-', 0, 0);
        x.pass(1);
        return x.used();
    }

    private static Due.Call leakedOf(int head, int height, int leak) {
        return () -> leaked(head, height, leak);
    }

    /** Whether a pump is on behind an hour with a rule by a tank whose level is this, and stays so. */
    private static Due.Call ruled(int level, int low, int high, boolean isOn) {
        return () -> {
            Valvekeeper x = new Valvekeeper();
            x.tank(0, 9, 9 * level + (level < 1000 ? 8 : 0));
            x.junction(0, 0);
            x.junction(0, 0);
            x.pipe(1, 2, 1, 'p', 1, 0);
            x.pump(0, isOn);
            x.rule(0, 0, low, high);
            x.pass(1);
            return x.pump(0, false);
        };
    }

    private static void rules() {
        Said.part("Hours");
        says("An hour goes so: 1. rules of pumps, by rising pipes:");
        Valvekeeper x = new Valvekeeper();
        x.tank(0, 10, 100);
        x.junction(0, 0);
        x.junction(0, 0);
        for (int pipe = 0; pipe < 3; pipe++) {
            x.pipe(1, 2, 1, 'p', 1, 0);
        }
        x.rule(0, 0, 11, 11);
        x.pump(1, true);
        x.rule(2, 0, 11, 11);
        x.rule(1, 0, 9, 9);
        x.pass(1);
        are(true, () -> x.pump(0, true), () -> x.pump(2, true));
        is(false, () -> x.pump(1, false));
        is(12L, x::cost);
        says("a pump with a rule goes on if the level of its tank is less than the lower mark,");
        are(true, ruled(9, 10, 10, false), ruled(9, 10, 10, true), ruled(0, 1, 1, false),
            ruled(998, 999, 999, false));
        are(false, ruled(10, 10, 10, false), ruled(10, 10, 20, false), ruled(0, 0, 0, false),
            ruled(999, 999, 999, false));
        says("off if it is greater than the upper one;");
        are(false, ruled(11, 10, 10, true), ruled(11, 10, 10, false), ruled(1, 0, 0, true),
            ruled(1000, 999, 999, true));
        are(true, ruled(10, 10, 10, true), ruled(10, 5, 10, true), ruled(7, 5, 10, true), ruled(0, 0, 0, true),
            ruled(999, 999, 999, true), ruled(1000, 999, 1000, true));
    }

    private static void costs() {
        says("2. heads;");
        Valvekeeper x = new Valvekeeper();
        x.tank(50, 50, 0);
        x.junction(0, 0);
        x.pipe(0, 1, 1, '-', 0, 0);
        x.pipe(0, 1, 1, 'p', 20, 0);
        x.rule(1, 0, 1, 1);
        x.pass(1);
        // The rule turned the pump on ahead of that: (50 + 50 + 20) / 2.
        is(60, () -> x.head(1));
        says("3. flows;");
        is(-1, () -> x.flow(0));
        is(1, () -> x.flow(1));
        says("each pump that is on then costs the tariff of the hour,");
        Valvekeeper y = new Valvekeeper();
        y.junction(0, 0);
        y.junction(0, 0);
        y.pipe(0, 1, 1, 'p', 1, 1);
        y.pipe(0, 1, 1, 'p', 1, 0);
        y.pass(1);
        is(0L, y::cost);
        y.setTariff(2, 99);
        y.setTariff(3, 0);
        y.pump(0, true);
        y.pump(1, true);
        y.pass(1);
        is(12L, y::cost);
        y.pump(1, false);
        y.pass(1);
        is(111L, y::cost);
        y.pass(1);
        is(111L, y::cost);
        // It is on, though nothing flows in it.
        y.broke(0, true);
        y.valve(0, false, false);
        y.pass(1);
        is(112L, y::cost);
        says("and 5 more if it was off as the hour before was done,");
        y.pump(1, true);
        y.pass(1);
        is(119L, y::cost);
        y.pump(1, false);
        y.pass(1);
        y.pump(1, true);
        y.pass(1);
        is(127L, y::cost);
        y.pump(1, false);
        y.pump(1, true);
        y.pass(1);
        is(129L, y::cost);
        says("or there was none;");
        Valvekeeper z = new Valvekeeper();
        z.junction(0, 0);
        z.junction(0, 0);
        z.pipe(0, 1, 1, 'p', 1, 1);
        z.pump(0, true);
        z.pass(1);
        is(6L, z::cost);
        z.pass(2);
        is(8L, z::cost);
    }

    /** A tank 100 high, 1 wide, that empties into another one with nothing in it. */
    private static Valvekeeper emptying(int water) {
        Valvekeeper x = new Valvekeeper();
        x.tank(100, 1, water);
        x.tank(0, 50, 0);
        x.pipe(0, 1, 1, '-', 0, 0);
        x.pass(1);
        return x;
    }

    private static void tanksFill() {
        says("4. tanks: what flows in, less what flows out, comes to the water of each one,");
        Valvekeeper x = new Valvekeeper();
        x.tank(100, 50, 20);
        x.tank(50, 50, 20);
        x.tank(0, 50, 20);
        x.pipe(0, 1, 1, '-', 0, 0);
        x.pipe(2, 1, 2, '-', 0, 0);
        x.pass(1);
        is(15, () -> x.water(0));
        is(15, () -> x.water(1));
        is(30, () -> x.water(2));
        says("but at least 0;");
        is(0, () -> emptying(9).water(0));
        is(10, () -> emptying(9).water(1));
        is(0, () -> emptying(10).water(0));
        is(0, () -> emptying(11).water(0));
        is(1, () -> emptying(12).water(0));
        is(0, () -> emptying(0).water(0));
        is(10, () -> emptying(0).flow(0));
    }

    private static void orderOfAnHour() {
        Valvekeeper x = line(4, 0);
        x.pass(1);
        says("5. quality;");
        is(900, () -> x.quality(1, 'c'));
        says("6. meters.");
        is(4, () -> x.reading(1));
    }

    private static void hoursOfTheDay() {
        says("Hours are numbered from 0;");
        Valvekeeper x = new Valvekeeper();
        x.junction(0, 1);
        x.setPattern(0, 200);
        x.pass(1);
        is(2L, x::used);
        x.pass(1);
        is(3L, x::used);
        says("the hour of a day is the number modulo 24.");
        x.setPattern(23, 300);
        x.pass(21);
        is(24L, x::used);
        x.pass(1);
        is(27L, x::used);
        x.pass(1);
        is(29L, x::used);
        x.pass(1);
        is(30L, x::used);
        // 1999 modulo 24 is 7.
        Valvekeeper old = Twin.OLD.make();
        old.pass(6);
        old.setPattern(7, 0);
        long used = old.used();
        old.pass(1);
        is(used, old::used);
        says("A demand of an hour is the demand times the percentage of the hour of the day, 100 at first,");
        are(50, demanded(50, -1, -1), demanded(50, 100, -1));
        is(0, demanded(99, 0, -1));
        is(297, demanded(99, 300, -1));
        says("times that of the drought, 100 at first,");
        are(50, demanded(50, -1, 100), demanded(50, 200, 50));
        is(0, demanded(99, 300, 0));
        says("each time divided by 100, rounded down.");
        is(0, demanded(3, 50, 67));
        is(1, demanded(3, 66, -1));
        is(0, demanded(99, 1, -1));
        is(0, demanded(1, -1, 99));
        is(293, demanded(99, 299, 99));
    }

    /** What a junction without pipes gets; -1 for what is not set. */
    private static Due.Call demanded(int demand, int percent, int drought) {
        return () -> {
            Valvekeeper x = new Valvekeeper();
            x.junction(0, demand);
            if (percent >= 0) {
                x.setPattern(0, percent);
            }
            if (drought >= 0) {
                x.setDrought(drought);
            }
            x.pass(1);
            return x.reading(0);
        };
    }

    /** Tanks 0 and 1 of the head 100 and of this foul; 15 flow from the one, 35 from the other to junction 2. */
    private static Valvekeeper mixed(int foul, int other) {
        Valvekeeper x = new Valvekeeper();
        x.tank(100, 50, 0);
        x.tank(100, 50, 0);
        x.junction(0, 50);
        x.pipe(0, 2, 3, '-', 0, 0);
        x.pipe(2, 1, 7, '-', 0, 0);
        x.foul(0, foul);
        x.foul(1, other);
        x.pass(1);
        return x;
    }

    private static void qualityAtFirst() {
        Said.part("Quality");
        says("Water has an age, in hours, a chlorine, and a part of foul, 0 to 1000 each.");
        Valvekeeper x = new Valvekeeper();
        x.junction(0, 0);
        for (int i = 0; i < 7; i++) {
            x.pass(1);
        }
        is(7, () -> x.quality(0, 'a'));
        is(1000, () -> mixed(1000, 1000).quality(2, 'f'));
        is(0, () -> mixed(0, 0).quality(2, 'f'));
        are(Due.ARGUMENT, () -> mixed(-1, 0), () -> mixed(1001, 0));
        are(1000, () -> mixed(0, 0).quality(0, 'c'), () -> mixed(1000, 0).quality(0, 'f'));
    }

    private static void qualityOfTanks() {
        says("A tank has the chlorine 1000 and the age 0, always,");
        Valvekeeper x = line(0, 0);
        x.tank(0, 50, 0);
        x.pipe(1, 2, 4, '-', 0, 0);
        are(1000, () -> x.quality(0, 'c'), () -> x.quality(2, 'c'));
        are(0, () -> x.quality(0, 'a'), () -> x.quality(2, 'a'));
        x.pass(3);
        is(20, () -> x.flow(1));
        are(1000, () -> x.quality(0, 'c'), () -> x.quality(2, 'c'));
        are(0, () -> x.quality(0, 'a'), () -> x.quality(2, 'a'));
        says("and what is told as foul, 0 at first.");
        is(0, () -> x.foul(2, 700));
        x.foul(0, 300);
        x.pass(3);
        is(300, () -> x.quality(0, 'f'));
        is(700, () -> x.quality(2, 'f'));
        is(300, () -> x.quality(1, 'f'));
    }

    private static void qualityOfInflow() {
        says("The others: at the end of each hour, each junction into which something flows gets, of the age, the "
            + "chlorine and the foul, the sum of what flows in from each pipe times this of the node from which it "
            + "comes,");
        is(500, () -> mixed(500, 500).quality(2, 'f'));
        is(300, () -> mixed(1000, 0).quality(2, 'f'));
        is(700, () -> mixed(0, 1000).quality(2, 'f'));
        is(900, () -> mixed(0, 0).quality(2, 'c'));
        is(1, () -> mixed(0, 0).quality(2, 'a'));
        // What flows out of it to another tank counts for nothing.
        Valvekeeper out = line(0, 0);
        out.tank(0, 50, 0);
        out.pipe(1, 2, 4, '-', 0, 0);
        out.foul(0, 400);
        out.foul(2, 1000);
        out.pass(1);
        is(400, () -> out.quality(1, 'f'));
        says("as it was ahead of this hour,");
        Valvekeeper x = line(4, 0);
        x.junction(0, 4);
        x.pipe(1, 2, 4, '-', 0, 0);
        x.foul(0, 640);
        x.pass(1);
        is(640, () -> x.quality(1, 'f'));
        are(0, () -> x.quality(2, 'f'), () -> x.quality(2, 'c'));
        x.pass(1);
        is(640, () -> x.quality(2, 'f'));
        is(810, () -> x.quality(2, 'c'));
        is(2, () -> x.quality(2, 'a'));
        says("divided by the sum of what flows in, rounded down;");
        // (15 * 1000 + 35 * 1) / 50, (15 * 3 + 35 * 0) / 50, (15 * 1 + 35 * 2) / 50.
        is(300, () -> mixed(1000, 1).quality(2, 'f'));
        is(0, () -> mixed(3, 0).quality(2, 'f'));
        is(1, () -> mixed(1, 2).quality(2, 'f'));
        qualityOfTwoJunctions();
        // 1 from each of both, and 1 from one alone.
        is(0, () -> drops(1, 0).quality(2, 'f'));
        is(1, () -> drops(1, 1).quality(2, 'f'));
        is(1, () -> drops(0, 2).quality(2, 'f'));
        is(1, () -> fall(100, 0, 1).quality(1, 'a'));
        is(900, () -> fall(100, 0, 1).quality(1, 'c'));
    }

    /** 1 flows from each of two tanks of this foul to junction 2. */
    private static Valvekeeper drops(int foul, int other) {
        Valvekeeper x = new Valvekeeper();
        x.tank(10, 50, 0);
        x.tank(10, 50, 0);
        x.junction(0, 2);
        x.pipe(0, 2, 1, '-', 0, 0);
        x.pipe(1, 2, 1, '-', 0, 0);
        x.foul(0, foul);
        x.foul(1, other);
        x.pass(1);
        return x;
    }

    /**
     * Junctions 1 and 2 stand still at the height 50 until they have the age 4 and 2, and the foul 90 and 50; then
     * 1 flows from the one, and 2 from the other, to junction 4.
     */
    private static void qualityOfTwoJunctions() {
        Valvekeeper x = new Valvekeeper();
        x.tank(100, 50, 0);
        x.junction(50, 9);
        x.pass(3);
        x.junction(50, 9);
        x.pipe(0, 1, 1, '-', 0, 1);
        x.pipe(0, 2, 1, '-', 0, 1);
        x.foul(0, 90);
        is(3, () -> x.quality(1, 'a'));
        // 9 are asked for: each is at the head 100 - 90, and dry; 9 flow in.
        x.pass(1);
        is(9, () -> x.flow(0));
        is(1, () -> x.quality(1, 'a'));
        x.valve(0, false, false);
        x.pass(1);
        x.foul(0, 50);
        x.pass(1);
        is(90, () -> x.quality(1, 'f'));
        is(50, () -> x.quality(2, 'f'));
        x.valve(1, false, false);
        x.pass(1);
        // Three hours later than the last inflow the one has the age 4, the other 2.
        is(4, () -> x.quality(1, 'a'));
        is(2, () -> x.quality(2, 'a'));
        is(657, () -> x.quality(1, 'c'));
        is(810, () -> x.quality(2, 'c'));
        x.tank(0, 50, 0);
        x.junction(0, 0);
        x.pipe(4, 3, 9, '-', 0, 0);
        x.pipe(1, 4, 1, '>', 0, 0);
        x.pipe(2, 4, 2, '>', 0, 0);
        x.setDrought(0);
        x.pass(1);
        // Junctions 1, 2 and 4 have 0, 0, 0; 50, 50, 12; 12, 12, 0; and so on, the last of these in sweep 60.
        is(1, () -> x.flow(3));
        is(2, () -> x.flow(4));
        // (1 * 4 + 2 * 2) / 3 and an hour; (1 * 90 + 2 * 50) / 3; (1 * 657 + 2 * 810) / 3 = 759, less 75.
        is(3, () -> x.quality(4, 'a'));
        is(63, () -> x.quality(4, 'f'));
        is(684, () -> x.quality(4, 'c'));
    }

    private static void qualityKept() {
        says("others keep what they have.");
        Valvekeeper x = line(4, 0);
        x.foul(0, 640);
        x.pass(1);
        x.foul(0, 10);
        x.broke(0, true);
        x.pass(1);
        is(640, () -> x.quality(1, 'f'));
        is(2, () -> x.quality(1, 'a'));
        is(810, () -> x.quality(1, 'c'));
        // A difference of less than 10 is no flow: nothing flows in. With the demand 1 just 1 flows.
        is(0, () -> fall(9, 0, 0).quality(1, 'c'));
        is(0, () -> fall(100, 0, 0).quality(1, 'c'));
        is(900, () -> fall(100, 0, 1).quality(1, 'c'));
        // Out of a junction into which nothing flows, by a pump: the sixtieth sweep leaves 1 at its height.
        Valvekeeper y = line(4, 0);
        y.foul(0, 640);
        y.pass(1);
        y.broke(0, true);
        y.tank(0, 50, 0);
        y.foul(2, 5);
        y.pipe(1, 2, 1, 'p', 99, 0);
        y.pump(1, true);
        y.pass(1);
        is(9, () -> y.flow(1));
        is(640, () -> y.quality(1, 'f'));
    }

    private static void lossesOfAnHour() {
        says("Then the age of each junction is 1 more, at most 1000,");
        Valvekeeper x = line(4, 0);
        x.junction(0, 0);
        for (int i = 0; i < 41; i++) {
            x.pass(24);
        }
        x.pass(15);
        is(999, () -> x.quality(2, 'a'));
        x.pass(1);
        is(1000, () -> x.quality(2, 'a'));
        x.pass(1);
        is(1000, () -> x.quality(2, 'a'));
        is(1, () -> x.quality(1, 'a'));
        says("and the chlorine a tenth less, rounded down: what is lost.");
        x.broke(0, true);
        // 900, less 90, 81, 72, 65, 59, 53, 48, 43, 38, 35, 31, 28, 25, 23, 20, 18, 17.
        int[] due = {810, 729, 657, 592, 533, 480, 432, 389, 351, 316, 285, 257, 232, 209, 189, 171, 154};
        for (int chlorine : due) {
            x.pass(1);
            is(chlorine, () -> x.quality(1, 'c'));
        }
        x.pass(24);
        x.pass(24);
        is(9, () -> x.quality(1, 'c'));
        says("At first, all three are 0.");
        Valvekeeper y = new Valvekeeper();
        y.junction(7, 7);
        are(0, () -> y.quality(0, 'a'), () -> y.quality(0, 'c'), () -> y.quality(0, 'f'));
    }

    private static void set(Valvekeeper x, int pipe, int... valves) {
        is(valves.length, () -> x.toShut(pipe));
        for (int i = 0; i < valves.length; i++) {
            int index = i;
            is(valves[i], () -> x.toShutAt(pipe, index));
        }
        is(Due.ARGUMENT, () -> x.toShutAt(pipe, valves.length));
    }

    private static void breaks() {
        Said.part("Breaks");
        says("A pipe may break, until it is mended;");
        Valvekeeper x = line(4, 3);
        is(false, () -> x.broke(0, true));
        x.pass(24);
        is(true, () -> x.broke(0, true));
        is(true, () -> x.broke(0, false));
        is(false, () -> x.broke(0, false));
        says("nothing flows in it then, and it is to be shut off.");
        x.pass(1);
        is(4, () -> x.flow(0));
        x.broke(0, true);
        x.pass(1);
        is(0, () -> x.flow(0));
        set(x, 0, 0);
        x.broke(0, false);
        x.pass(1);
        is(4, () -> x.flow(0));
    }

    private static void parts() {
        says("Its part is itself,");
        Valvekeeper x = row();
        x.valve(1, false, false);
        x.valve(1, true, false);
        is(true, () -> x.isShutOff(1));
        is(false, () -> x.isShutOff(0));
        says("and all that hangs together with it by pipes that have no shut valve at this end: from a pipe to a node "
            + "at its end, and from a node to a pipe there, unless a shut valve lies between them;");
        Valvekeeper y = row();
        are(false, () -> y.isShutOff(0), () -> y.isShutOff(1), () -> y.isShutOff(2));
        y.valve(1, true, false);
        // Pipe 1 hangs together with node 1; node 2 and pipe 2 do not.
        are(false, () -> y.isShutOff(0), () -> y.isShutOff(1), () -> y.isCutOff(1));
        are(true, () -> y.isShutOff(2), () -> y.isCutOff(2), () -> y.isCutOff(3));
        y.valve(1, true, true);
        y.valve(1, false, false);
        // Now pipe 1 hangs together with node 2.
        are(false, () -> y.isShutOff(0), () -> y.isCutOff(1));
        are(true, () -> y.isShutOff(1), () -> y.isShutOff(2), () -> y.isCutOff(2));
        y.tank(0, 1, 0);
        y.pipe(3, 4, 1, '-', 0, 0);
        are(false, () -> y.isShutOff(1), () -> y.isShutOff(2), () -> y.isCutOff(2));
        says("broken or not, pumps on or not.");
        Valvekeeper z = new Valvekeeper();
        z.tank(0, 1, 0);
        for (int node = 1; node <= 3; node++) {
            z.junction(0, 0);
        }
        z.pipe(0, 1, 1, '-', 0, 1);
        z.pipe(2, 1, 1, 'p', 9, 1);
        z.pipe(3, 2, 1, '>', 0, 1);
        z.broke(0, true);
        are(false, () -> z.isShutOff(0), () -> z.isShutOff(1), () -> z.isShutOff(2), () -> z.isCutOff(3));
        z.pump(1, true);
        are(false, () -> z.isShutOff(2), () -> z.isCutOff(3));
        set(z, 2, 0);
        says("It is shut off if there is no tank in its part.");
        Valvekeeper w = new Valvekeeper();
        w.junction(0, 0);
        w.junction(0, 0);
        w.pipe(0, 1, 1, '-', 0, 0);
        is(true, () -> w.isShutOff(0));
        w.tank(0, 1, 0);
        is(true, () -> w.isShutOff(0));
        w.pipe(2, 1, 1, '-', 0, 0);
        is(false, () -> w.isShutOff(0));
    }

    /** A break at pipe 4 between nodes 0 and 1; two ways from there to node 2, and two from there to the tank. */
    private static Valvekeeper waist(boolean isNearFirst) {
        Valvekeeper x = new Valvekeeper();
        x.junction(0, 0);
        x.junction(0, 0);
        x.junction(0, 0);
        x.tank(0, 1, 0);
        x.pipe(isNearFirst ? 0 : 2, isNearFirst ? 2 : 3, 1, '-', 0, 1);
        x.pipe(isNearFirst ? 2 : 0, isNearFirst ? 3 : 2, 1, '-', 0, 1);
        x.pipe(isNearFirst ? 2 : 1, isNearFirst ? 3 : 2, 1, '-', 0, 1);
        x.pipe(isNearFirst ? 1 : 2, isNearFirst ? 2 : 3, 1, '-', 0, 1);
        x.pipe(0, 1, 1, '-', 0, 0);
        return x;
    }

    private static void sets() {
        says("The set to shut is the fewest of the valves that are open and not stuck by whose shutting it would be,");
        Valvekeeper x = row();
        x.pipe(0, 1, 1, '-', 0, 3);
        // Two ways from the tank to node 1, one from there on.
        set(x, 2, 2);
        x.stick(1, false, true);
        set(x, 2, 3);
        x.stick(1, true, true);
        set(x, 2, 4);
        x.stick(2, false, true);
        set(x, 2, 0, 6);
        x.stick(0, false, true);
        x.stick(3, false, true);
        set(x, 2, 1, 7);
        x.stick(3, true, true);
        is(Due.NO_ELEMENT, () -> x.toShut(2));
        x.stick(3, true, false);
        x.valve(3, true, false);
        set(x, 2, 1);
        x.stick(3, true, true);
        set(x, 2, 1);
        says("none if it is already;");
        Valvekeeper y = row();
        y.valve(0, true, false);
        set(y, 1);
        set(y, 2);
        set(y, 0, 0);
        y.valve(0, false, false);
        set(y, 0);
        is(true, () -> y.isShutOff(0));
        says("of several sets the first one: valves in an order by their pipes, the first end ahead of the second "
            + "one,");
        Valvekeeper z = row();
        set(z, 2, 0);
        z.stick(0, false, true);
        set(z, 2, 1);
        z.stick(0, true, true);
        set(z, 2, 2);
        z.stick(1, false, true);
        set(z, 2, 3);
        z.stick(1, true, true);
        set(z, 2, 4);
        z.stick(2, false, true);
        is(Due.NO_ELEMENT, () -> z.toShut(2));
        says("sets being compared by their first valve, then by their second one, and so on.");
        set(waist(true), 4, 0, 6);
        set(waist(false), 4, 0, 6);
        Valvekeeper w = waist(true);
        w.stick(0, false, true);
        set(w, 4, 2, 4);
        Valvekeeper v = new Valvekeeper();
        v.junction(0, 0);
        v.junction(0, 0);
        v.tank(0, 1, 0);
        v.pipe(0, 1, 1, '-', 0, 0);
        v.pipe(0, 2, 1, '-', 0, 3);
        v.pipe(1, 2, 1, '-', 0, 3);
        v.pipe(2, 1, 1, '-', 0, 3);
        set(v, 0, 2, 4, 6);
        v.stick(3, false, true);
        set(v, 0, 2, 4, 7);
        v.stick(2, false, true);
        set(v, 0, 2, 5, 7);
        v.stick(1, false, true);
        set(v, 0, 3, 5, 7);
    }

    private static void cutOff() {
        says("Junctions whose part has no tank are cut off.");
        Valvekeeper x = row();
        are(false, () -> x.isCutOff(1), () -> x.isCutOff(2), () -> x.isCutOff(3));
        x.valve(1, true, false);
        is(false, () -> x.isCutOff(1));
        are(true, () -> x.isCutOff(2), () -> x.isCutOff(3));
        x.junction(0, 0);
        is(true, () -> x.isCutOff(4));
        is(false, () -> x.isCutOff(0));
    }

    private static void meters() {
        Said.part("Meters");
        says("Each junction has a meter, which counts what the junction gets in each hour,");
        Valvekeeper x = new Valvekeeper();
        x.tank(100, 50, 0);
        x.junction(0, 8);
        x.junction(150, 99);
        x.junction(0, 7);
        x.pipe(0, 1, 4, '-', 0, 0);
        x.pipe(0, 2, 4, '-', 0, 0);
        x.setLeak(1, 50);
        x.pass(2);
        is(16, () -> x.reading(1));
        is(0, () -> x.reading(2));
        is(14, () -> x.reading(3));
        says("times its pace, 100 at first, divided by 100, rounded down,");
        Valvekeeper y = alone(3);
        y.pass(1);
        is(3, () -> y.reading(0));
        y.setPace(0, 150);
        y.pass(2);
        is(11, () -> y.reading(0));
        y.setPace(0, 33);
        y.pass(1);
        is(11, () -> y.reading(0));
        y.setPace(0, 34);
        y.pass(1);
        is(12, () -> y.reading(0));
        y.setPace(0, 200);
        y.pass(1);
        is(18, () -> y.reading(0));
        y.setPace(0, 1);
        y.pass(24);
        is(18, () -> y.reading(0));
        says("as long as it does not stand.");
        y.setPace(0, 0);
        y.pass(24);
        is(18, () -> y.reading(0));
    }

    private static void bills() {
        says("A bill of a junction is by the difference of its reading and that of its last bill, 0 at first, if it is "
            + "read;");
        Valvekeeper x = alone(7);
        x.pass(2);
        is(14, () -> x.bill(0, true));
        is(0, () -> x.bill(0, true));
        x.pass(1);
        is(7, () -> x.bill(0, true));
        says("otherwise it is guessed: the mean of its last bills, at most 3 of them,");
        // Of 14, 0 and 7.
        is(7, () -> x.bill(0, false));
        Valvekeeper y = alone(1);
        int[] hours = {20, 8, 5, 2};
        int[] guesses = {20, 14, 11, 5};
        for (int i = 0; i < hours.length; i++) {
            int bills = i + 1;
            Valvekeeper z = alone(1);
            for (int k = 0; k < bills; k++) {
                z.pass(hours[k]);
                z.bill(0, true);
            }
            is(guesses[i], () -> z.bill(0, false));
        }
        says("rounded down, also below 0,");
        y.pass(1);
        is(1, () -> y.bill(0, true));
        are(1, () -> y.bill(0, false), () -> y.bill(0, false), () -> y.bill(0, false));
        is(-3, () -> y.bill(0, true));
        // The means of 1, 1, -3; 1, -3, -1; -3, -1, -1; -1, -1, -2.
        are(-1, () -> y.bill(0, false), () -> y.bill(0, false));
        are(-2, () -> y.bill(0, false), () -> y.bill(0, false));
        says("and 0 without any,");
        Valvekeeper w = alone(10);
        w.pass(1);
        is(0, () -> w.bill(0, false));
        says("and the reading is what it would be by that.");
        is(10, () -> w.reading(0));
        is(10, () -> w.bill(0, true));
        w.pass(1);
        // The mean of 0 and 10; so 15 is as read, of 20.
        is(5, () -> w.bill(0, false));
        is(20, () -> w.reading(0));
        is(5, () -> w.bill(0, true));
        // The mean of 10, 5, 5; so 26 is as read, of 20.
        is(6, () -> w.bill(0, false));
        is(-6, () -> w.bill(0, true));
    }

    private static void districts() {
        says("Each junction is in a district, 0 to 3, 0 at first.");
        Valvekeeper x = alone(1);
        are(Due.ARGUMENT, () -> x.setDistrict(0, -1), () -> x.setDistrict(0, 4));
        is(0, () -> x.setDistrict(0, 3));
        is(3, () -> x.setDistrict(0, 0));
        says("What a district misses in an hour is what flowed into its junctions from others and from tanks, less "
            + "what flowed out of them, less what its meters counted in this hour.");
        // The heads 100, 66, 33, 0 stay; 3 * 34 / 10 flow in, 3 * 33 / 10 on, and 3 * 33 / 10 out.
        Valvekeeper y = new Valvekeeper();
        y.tank(100, 50, 0);
        y.junction(66, 0);
        y.junction(33, 0);
        y.tank(0, 50, 0);
        y.pipe(0, 1, 3, '-', 0, 0);
        y.pipe(2, 1, 3, '-', 0, 0);
        y.pipe(2, 3, 3, '-', 0, 0);
        y.pass(1);
        is(10, () -> y.flow(0));
        is(-9, () -> y.flow(1));
        is(9, () -> y.flow(2));
        is(1, () -> y.missed(0));
        y.setDistrict(2, 3);
        is(1, () -> y.missed(0));
        is(0, () -> y.missed(3));
        are(0, () -> y.missed(1), () -> y.missed(2));
        // 4 * 20 / 10 flow in, of which a meter at 50 counts 4 and a leak takes 16.
        Valvekeeper z = line(8, 0);
        z.setPace(1, 50);
        z.setLeak(1, 2);
        z.pass(2);
        is(4, () -> z.missed(0));
        z.setPace(1, 0);
        is(4, () -> z.missed(0));
        z.pass(1);
        is(8, () -> z.missed(0));
    }

    private static void exceptionsChangeNothing() {
        Said.part("Exceptions");
        says("A method that throws an exception changes nothing.");
        Said.refused(Due.INDEX, x -> x.pipe(6, 0, 1, '-', 0, 3), x -> x.valve(6, false, false),
            x -> x.stick(6, false, true), x -> x.pump(6, true), x -> x.rule(6, 0, 1, 2), x -> x.broke(6, true),
            x -> x.setLeak(6, 1), x -> x.head(6), x -> x.flow(6), x -> x.wasDry(6), x -> x.water(6), x -> x.excess(6),
            x -> x.quality(6, 'a'), x -> x.foul(6, 1), x -> x.fire(6), x -> x.isShutOff(6), x -> x.toShut(6),
            x -> x.toShutAt(6, 0), x -> x.shut(6), x -> x.isCutOff(6), x -> x.setPace(6, 1), x -> x.reading(6),
            x -> x.bill(6, true), x -> x.setDistrict(6, 1));
        Said.refused(Due.ARGUMENT, x -> x.junction(0, 100), x -> x.tank(0, 0, 0), x -> x.setPattern(0, 301),
            x -> x.setDrought(101), x -> x.setTariff(0, 100), x -> x.pass(25), x -> x.missed(4));
        Said.refused(Twin.EMPTY, Due.ARITHMETIC, Valvekeeper::dryShare, Valvekeeper::meanPressure);
    }

    private static void firstOfSeveralExceptions() {
        says("If several exceptions apply, the exception listed first is thrown.");
        Said.refused(Twin.FULL, Due.ARGUMENT, x -> x.junction(201, 0), x -> x.junction(0, 100), x -> x.tank(0, 0, 0),
            x -> x.pipe(0, 0, 1, '-', 0, 0), x -> x.pipe(0, 1, 1, 'x', 0, 0), x -> x.pipe(0, 1, 0, '-', 0, 0));
        Said.refused(Twin.FULL, Due.INDEX, x -> x.pipe(16, 0, 1, '-', 0, 0), x -> x.pipe(0, -1, 0, 'x', 0, 9));
        Said.refused(Due.INDEX, x -> x.pipe(6, 6, 1, '-', 0, 0), x -> x.pipe(0, 6, 0, 'x', 0, 4),
            x -> x.rule(6, 9, -1, -2), x -> x.setLeak(6, 51), x -> x.quality(6, 'x'), x -> x.foul(6, 1001),
            x -> x.toShutAt(6, -1), x -> x.setPace(6, 201), x -> x.setDistrict(6, 4));
        Said.refused(Due.UNSUPPORTED, x -> x.rule(0, 9, -1, -2), x -> x.setLeak(0, 51), x -> x.foul(1, 1001),
            x -> x.setPace(0, 201), x -> x.setDistrict(0, 4));
        Said.refused(Twin.BARE, Due.NO_ELEMENT, x -> x.toShutAt(0, -1), x -> x.toShutAt(0, 1));
        Said.refused(Twin.OLD, Due.ARGUMENT, x -> x.pass(25), x -> x.pass(MOST));
    }
}
