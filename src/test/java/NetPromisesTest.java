import java.io.IOException;

/** Promises 1 to 13: the net, line by line. */
public final class NetPromisesTest extends Sentences {
    public static void main(String[] args) throws IOException {
        Said.begin();
        newObject();
        junction();
        tank();
        pipe();
        pipeRefused();
        valve();
        stick();
        pump();
        rule();
        broke();
        setLeak();
        setPattern();
        setDrought();
        setTariff();
        end(1, 13);
    }

    private static void newObject() {
        promise(1, "Creates a city without nodes and pipes, at the hour 0.");
        Valvekeeper x = new Valvekeeper();
        are(Due.INDEX, () -> x.head(0), () -> x.flow(0), () -> x.isCutOff(0), () -> x.toShut(0));
        are(0, x::sweeps, x::turned, () -> x.missed(0), () -> x.missed(3));
        are(0L, x::cost, x::used);
        are(Due.ARITHMETIC, x::dryShare, x::meanPressure);
        is(true, x::isTrue);
        is(0, () -> x.junction(0, 10));
        x.setPattern(0, 200);
        is(1, () -> x.pass(1));
        is(20, () -> x.reading(0));
        is(0, () -> new Valvekeeper().junction(0, 0));
    }

    private static void junction() {
        promise(2, "Adds a junction.");
        Valvekeeper x = new Valvekeeper();
        is(Due.INDEX, () -> x.isCutOff(0));
        is(0, () -> x.junction(5, 7));
        is(true, () -> x.isCutOff(0));
        is(Due.UNSUPPORTED, () -> x.water(0));
        says("- `height`: the height, 0 to 200");
        is(5, () -> x.head(0));
        is(1, () -> x.junction(0, 0));
        is(0, () -> x.head(1));
        is(2, () -> x.junction(200, 0));
        is(200, () -> x.head(2));
        refused(Due.ARGUMENT, (y, height) -> y.junction(height, 0), -1, 201, LEAST, MOST);
        says("- `demand`: the demand, 0 to 99");
        is(3, () -> x.junction(0, 99));
        x.pass(1);
        is(7, () -> x.reading(0));
        is(0, () -> x.reading(1));
        is(99, () -> x.reading(3));
        refused(Due.ARGUMENT, (y, demand) -> y.junction(0, demand), -1, 100, LEAST, MOST);
        says("Returns its number as a node.");
        is(4, () -> x.tank(0, 1, 0));
        is(5, () -> x.junction(0, 0));
        says("Throws `IllegalArgumentException` if a number is out of range");
        Said.refused(Due.ARGUMENT, y -> y.junction(-1, -1), y -> y.junction(201, 100), y -> y.junction(MOST, LEAST));
        says("Throws `IllegalStateException` if there are 16 nodes");
        for (int node = 6; node < 16; node++) {
            int due = node;
            is(due, () -> x.junction(0, 0));
        }
        is(Due.STATE, () -> x.junction(0, 0));
        Said.refused(Twin.FULL, Due.STATE, y -> y.junction(0, 0), y -> y.junction(200, 99));
        Said.refused(Twin.FULL, Due.ARGUMENT, y -> y.junction(201, 0), y -> y.junction(0, 100));
    }

    private static void tank() {
        promise(3, "Adds a tank.");
        Valvekeeper x = new Valvekeeper();
        is(Due.INDEX, () -> x.water(0));
        is(0, () -> x.tank(5, 7, 13));
        is(13, () -> x.water(0));
        is(Due.UNSUPPORTED, () -> x.reading(0));
        says("- `height`: the height, 0 to 200");
        is(6, () -> x.head(0));
        is(1, () -> x.tank(0, 1, 0));
        is(0, () -> x.head(1));
        is(2, () -> x.tank(200, 1, 0));
        is(200, () -> x.head(2));
        refused(Due.ARGUMENT, (y, height) -> y.tank(height, 1, 0), -1, 201, LEAST, MOST);
        says("- `area`: the area, 1 to 50");
        is(3, () -> x.tank(0, 1, 99));
        is(99, () -> x.head(3));
        is(4, () -> x.tank(0, 50, 99));
        is(1, () -> x.head(4));
        refused(Due.ARGUMENT, (y, area) -> y.tank(0, area, 0), 0, 51, -1, LEAST, MOST);
        says("- `water`: the water, 0 to 9999");
        is(5, () -> x.tank(0, 1, 9999));
        is(9999, () -> x.water(5));
        is(0, () -> x.water(1));
        refused(Due.ARGUMENT, (y, water) -> y.tank(0, 1, water), -1, 10000, LEAST, MOST);
        says("Returns its number as a node.");
        is(6, () -> x.junction(0, 0));
        is(7, () -> x.tank(0, 1, 0));
        says("Throws `IllegalArgumentException` if a number is out of range");
        Said.refused(Due.ARGUMENT, y -> y.tank(-1, 0, -1), y -> y.tank(201, 51, 10000), y -> y.tank(0, 0, 10000));
        says("Throws `IllegalStateException` if there are 16 nodes");
        for (int node = 8; node < 16; node++) {
            int due = node;
            is(due, () -> x.tank(0, 1, 0));
        }
        is(Due.STATE, () -> x.tank(0, 1, 0));
        Said.refused(Twin.FULL, Due.STATE, y -> y.tank(0, 1, 0), y -> y.tank(200, 50, 9999));
        Said.refused(Twin.FULL, Due.ARGUMENT, y -> y.tank(201, 1, 0), y -> y.tank(0, 0, 0), y -> y.tank(0, 1, -1));
    }

    private static void pipe() {
        promise(4, "Adds a pipe.");
        Valvekeeper x = new Valvekeeper();
        x.tank(100, 50, 0);
        x.tank(50, 50, 0);
        is(Due.INDEX, () -> x.flow(0));
        is(0, () -> x.pipe(0, 1, 1, '-', 0, 0));
        is(0, () -> x.flow(0));
        says("- `first`: the first node");
        is(1, () -> x.pipe(0, 1, 2, '-', 0, 0));
        says("- `second`: the second node");
        is(2, () -> x.pipe(1, 0, 2, '-', 0, 0));
        x.pass(1);
        is(10, () -> x.flow(1));
        is(-10, () -> x.flow(2));
        says("- `width`: the width, 1 to 9");
        is(5, () -> between(1, '-', 0));
        is(45, () -> between(9, '-', 0));
        refused(Due.ARGUMENT, (y, width) -> y.pipe(0, 1, width, '-', 0, 0), 0, 10, -1, LEAST, MOST);
        says("- `kind`: '-' both ways, '>' one way alone, 'p' with a pump, which is off");
        is(-5, () -> against(1, '-', 0));
        is(5, () -> between(1, '>', 0));
        is(0, () -> against(1, '>', 0));
        is(9, () -> between(1, 'p', 40));
        is(1, () -> against(1, 'p', 60));
        is(0, () -> against(1, 'p', 40));
        is(3, () -> x.pipe(0, 1, 1, 'p', 60, 0));
        is(4, () -> x.pipe(0, 1, 1, '>', 60, 0));
        are(Due.UNSUPPORTED, () -> x.pump(0, true), () -> x.pump(4, true));
        x.pass(1);
        is(0, () -> x.flow(3));
        is(false, () -> x.pump(3, true));
        x.pass(1);
        is(true, () -> x.flow(3) > 0);
        refused(Due.ARGUMENT, (y, kind) -> y.pipe(0, 1, 1, (char) kind, 1, 0), 0, ',', '.', '=', '<', '?', 'o', 'q',
            'P', 65535);
        says("- `lift`: the lift of a pump, 1 to 99; of no meaning otherwise");
        // 9 * (50 + 1) / 10 and 50 + 99.
        is(45, () -> between(9, 'p', 1));
        is(14, () -> between(1, 'p', 99));
        is(4, () -> against(1, 'p', 99));
        refused(Due.ARGUMENT, (y, lift) -> y.pipe(0, 1, 1, 'p', lift, 0), 0, 100, -1, LEAST, MOST);
        int[] lifts = {0, 100, -1, 50, LEAST, MOST};
        for (int lift : lifts) {
            Valvekeeper z = new Valvekeeper();
            z.tank(9, 50, 0);
            z.tank(0, 50, 0);
            is(0, () -> z.pipe(0, 1, 1, '-', lift, 0));
            is(1, () -> z.pipe(0, 1, 1, '>', lift, 0));
            z.pass(1);
            are(0, () -> z.flow(0), () -> z.flow(1));
        }
        says("- `valves`: where it has valves, 1 at the first end plus 2 at the second one");
        for (int i = 0; i < 4; i++) {
            int valves = i;
            int pipe = 5 + i;
            is(pipe, () -> x.pipe(0, 1, 1, '-', 0, valves));
            is(valves % 2 == 1 ? true : Due.NO_ELEMENT, () -> x.valve(pipe, false, true));
            is(valves >= 2 ? true : Due.NO_ELEMENT, () -> x.valve(pipe, true, true));
        }
        refused(Due.ARGUMENT, (y, valves) -> y.pipe(0, 1, 1, '-', 0, valves), -1, 4, 7, LEAST, MOST);
        says("Returns its number.");
        is(9, () -> x.pipe(1, 0, 1, '>', 0, 3));
        is(10, () -> x.pipe(0, 1, 1, '-', 0, 0));
    }

    /** What flows by such a pipe, with its pump on, from a tank of the head 100 to one of the head 50. */
    private static int between(int width, char kind, int lift) {
        return flowBetween(0, width, kind, lift);
    }

    /** The same, with the first node of the pipe at the lower tank. */
    private static int against(int width, char kind, int lift) {
        return flowBetween(1, width, kind, lift);
    }

    private static int flowBetween(int first, int width, char kind, int lift) {
        Valvekeeper x = new Valvekeeper();
        x.tank(100, 50, 0);
        x.tank(50, 50, 0);
        x.pipe(first, 1 - first, width, kind, lift, 0);
        if (kind == 'p') {
            x.pump(0, true);
        }
        x.pass(1);
        return x.flow(0);
    }

    private static void pipeRefused() {
        says("Throws `IndexOutOfBoundsException` if there is no such node, for either");
        refused(Due.INDEX, (y, node) -> y.pipe(node, 1, 1, '-', 0, 0), -1, 6, 16, LEAST, MOST);
        refused(Due.INDEX, (y, node) -> y.pipe(1, node, 1, '-', 0, 0), -1, 6, 16, LEAST, MOST);
        refused(Due.INDEX, (y, node) -> y.pipe(node, node, 0, 'x', 0, 4), -1, 6);
        Said.refused(Twin.EMPTY, Due.INDEX, y -> y.pipe(0, 1, 1, '-', 0, 0), y -> y.pipe(0, 0, 1, '-', 0, 0));
        Said.refused(Twin.FULL, Due.INDEX, y -> y.pipe(0, 16, 1, '-', 0, 0), y -> y.pipe(16, 0, 0, 'x', 0, 4));
        says("Throws `IllegalArgumentException` if both are the same, there is no such kind, or a number is out of "
            + "range");
        refused(Due.ARGUMENT, (y, node) -> y.pipe(node, node, 1, '-', 0, 0), 0, 1, 5);
        Said.refused(Due.ARGUMENT, y -> y.pipe(0, 1, 1, 'x', 1, 0), y -> y.pipe(0, 1, 0, '-', 0, 0),
            y -> y.pipe(0, 1, 1, 'p', 0, 0), y -> y.pipe(0, 1, 1, '-', 0, 4), y -> y.pipe(1, 1, 0, 'x', 0, 4));
        says("Throws `IllegalStateException` if there are 24 pipes");
        Valvekeeper x = new Valvekeeper();
        x.junction(0, 0);
        x.tank(0, 1, 0);
        for (int pipe = 0; pipe < 24; pipe++) {
            int due = pipe;
            is(due, () -> x.pipe(0, 1, 1, "->p".charAt(due % 3), 1, 0));
        }
        is(Due.STATE, () -> x.pipe(0, 1, 1, '-', 0, 0));
        Said.refused(Twin.FULL, Due.STATE, y -> y.pipe(0, 1, 1, '-', 0, 3), y -> y.pipe(0, 15, 9, 'p', 99, 3));
        Said.refused(Twin.FULL, Due.ARGUMENT, y -> y.pipe(0, 0, 1, '-', 0, 3), y -> y.pipe(0, 1, 1, 'x', 0, 3),
            y -> y.pipe(0, 1, 10, '-', 0, 3), y -> y.pipe(0, 1, 1, 'p', 100, 3), y -> y.pipe(0, 1, 1, '-', 0, -1));
    }

    private static void valve() {
        promise(5, "Opens or shuts a valve.");
        Valvekeeper x = row();
        is(true, () -> x.valve(0, false, false));
        is(true, () -> x.isShutOff(0));
        is(true, () -> x.valve(0, false, true));
        is(false, () -> x.isShutOff(0));
        says("- `pipe`: the pipe");
        is(true, () -> x.valve(2, false, false));
        is(true, () -> x.isShutOff(2));
        is(false, () -> x.isShutOff(1));
        says("- `atSecond`: whether it is at the second node of the pipe, and not at the first one");
        is(true, () -> x.valve(2, false, true));
        is(true, () -> x.valve(2, true, false));
        is(false, () -> x.isShutOff(2));
        is(true, () -> x.isCutOff(3));
        says("- `isOpen`: whether it is open");
        is(true, () -> x.valve(2, true, true));
        is(false, () -> x.isCutOff(3));
        is(true, () -> x.valve(2, true, true));
        is(false, () -> x.isCutOff(3));
        is(6, x::turned);
        says("Returns whether it is so then; it is not, if it is stuck otherwise.");
        x.stick(0, false, true);
        is(false, () -> x.valve(0, false, false));
        is(true, () -> x.valve(0, false, true));
        is(false, () -> x.isShutOff(0));
        is(true, () -> x.valve(0, true, false));
        x.stick(0, true, true);
        is(false, () -> x.valve(0, true, true));
        is(true, () -> x.valve(0, true, false));
        is(true, () -> x.isCutOff(1));
        x.stick(0, true, false);
        is(true, () -> x.valve(0, true, true));
        is(false, () -> x.isCutOff(1));
        noSuchPipe((y, pipe) -> y.valve(pipe, false, false), (y, pipe) -> y.valve(pipe, true, true));
        noValve((y, at) -> y.valve(at / 2, at % 2 == 1, false));
    }

    private static void stick() {
        promise(6, "Lets a valve be stuck, or free again.");
        Valvekeeper x = row();
        x.stick(0, false, true);
        is(false, () -> x.valve(0, false, false));
        x.stick(0, false, false);
        is(true, () -> x.valve(0, false, false));
        is(true, () -> x.valve(0, false, true));
        says("- `pipe`: the pipe");
        x.stick(2, true, true);
        is(false, () -> x.valve(2, true, false));
        is(true, () -> x.valve(1, true, true));
        says("- `atSecond`: whether it is at the second node of the pipe, and not at the first one");
        is(true, () -> x.valve(2, false, false));
        is(true, () -> x.valve(2, false, true));
        says("- `isStuck`: whether it is stuck");
        is(true, () -> x.stick(2, true, true));
        is(false, () -> x.valve(2, true, false));
        is(true, () -> x.stick(2, true, false));
        is(true, () -> x.valve(2, true, false));
        says("Returns whether it was.");
        is(false, () -> x.stick(1, false, false));
        is(false, () -> x.stick(1, false, true));
        is(false, () -> x.stick(1, true, true));
        is(true, () -> x.stick(1, false, true));
        is(true, () -> x.stick(1, false, false));
        is(false, () -> x.stick(1, false, false));
        is(true, () -> x.stick(1, true, false));
        noSuchPipe((y, pipe) -> y.stick(pipe, false, true), (y, pipe) -> y.stick(pipe, true, false));
        noValve((y, at) -> y.stick(at / 2, at % 2 == 1, true));
    }

    private static void pump() {
        promise(7, "Turns a pump on or off.");
        Valvekeeper x = new Valvekeeper();
        x.tank(0, 50, 0);
        x.tank(0, 50, 0);
        x.pipe(0, 1, 1, 'p', 30, 0);
        x.pipe(0, 1, 2, 'p', 30, 0);
        x.pump(0, true);
        x.pass(1);
        is(3, () -> x.flow(0));
        x.pump(0, false);
        x.pass(1);
        is(0, () -> x.flow(0));
        says("- `pipe`: the pipe");
        x.pump(1, true);
        x.pass(1);
        is(0, () -> x.flow(0));
        is(6, () -> x.flow(1));
        says("- `isOn`: whether it is on");
        is(true, () -> x.pump(1, true));
        is(true, () -> x.pump(1, false));
        is(false, () -> x.pump(1, false));
        says("Returns whether it was.");
        is(false, () -> x.pump(0, true));
        is(true, () -> x.pump(0, true));
        is(false, () -> x.pump(1, true));
        is(true, () -> x.pump(0, false));
        noSuchPipe((y, pipe) -> y.pump(pipe, true));
        hasNoPump((y, pipe) -> y.pump(pipe, true));
    }

    private static void rule() {
        promise(8, "Gives a pump a rule.");
        Valvekeeper x = pumps();
        is(false, () -> x.rule(0, 0, 11, 11));
        x.pass(1);
        says("- `pipe`: the pipe");
        is(true, () -> x.pump(0, true));
        is(false, () -> x.pump(1, false));
        says("- `tank`: the tank, or -1 for no rule any more");
        x.rule(0, 1, 11, 11);
        x.rule(1, 0, 11, 11);
        x.pass(1);
        is(false, () -> x.pump(0, false));
        is(true, () -> x.pump(1, false));
        x.rule(1, -1, 0, 0);
        x.pass(1);
        is(false, () -> x.pump(1, true));
        x.pass(1);
        is(true, () -> x.pump(1, false));
        says("- `low`: the lower mark, 0 to 999");
        is(true, () -> x.rule(0, 0, 0, 999));
        is(true, () -> x.rule(0, 0, 999, 999));
        refused(Due.ARGUMENT, (y, low) -> y.rule(3, 0, low, MOST), -1, 1000, LEAST, MOST);
        int[] lows = {9, 10, 11};
        for (int low : lows) {
            Valvekeeper y = pumps();
            y.rule(0, 0, low, 999);
            y.pass(1);
            is(low == 11, () -> y.pump(0, false));
        }
        says("- `high`: the upper mark, not less");
        are(true, () -> x.rule(0, 0, 0, 0), () -> x.rule(0, 0, 7, 7), () -> x.rule(0, 0, 7, 8),
            () -> x.rule(0, 0, 999, 1000), () -> x.rule(0, 0, 0, MOST));
        refused(Due.ARGUMENT, (y, high) -> y.rule(3, 0, 7, high), 6, 0, -1, LEAST);
        refused(Due.ARGUMENT, (y, high) -> y.rule(3, 0, 0, high), -1, LEAST);
        int[] highs = {9, 10, 11};
        for (int high : highs) {
            Valvekeeper y = pumps();
            y.pump(0, true);
            y.rule(0, 0, 0, high);
            y.pass(1);
            is(high != 9, () -> y.pump(0, false));
        }
        says("Returns whether it had one.");
        Valvekeeper z = pumps();
        is(false, () -> z.rule(0, -1, 0, 0));
        is(false, () -> z.rule(0, 0, 1, 2));
        is(true, () -> z.rule(0, 1, 1, 2));
        is(false, () -> z.rule(1, 1, 1, 2));
        is(true, () -> z.rule(0, -1, 0, 0));
        is(false, () -> z.rule(0, -1, 0, 0));
        noSuchPipe((y, pipe) -> y.rule(pipe, 0, 1, 2));
        Said.refused(Due.INDEX, y -> y.rule(6, -1, 0, 0), y -> y.rule(6, 1, -1, -2));
        hasNoPump((y, pipe) -> y.rule(pipe, 0, 1, 2));
        Said.refused(Due.UNSUPPORTED, y -> y.rule(0, -1, 0, 0), y -> y.rule(4, 1, -1, -2));
        says("Throws `IllegalArgumentException` if there is no such tank, or a mark is out of range;");
        refused(Due.ARGUMENT, (y, tank) -> y.rule(3, tank, 1, 2), 1, 4, 6, 16, -2, LEAST, MOST);
        Said.refused(Due.ARGUMENT, y -> y.rule(3, 0, -1, -1), y -> y.rule(3, 0, 1000, 1000), y -> y.rule(3, 0, 2, 1),
            y -> y.rule(3, 1, -1, -2));
        says("marks are of no meaning for -1");
        int[][] marks = {{-1, 0}, {1000, 1000}, {5, 4}, {LEAST, MOST}, {MOST, LEAST}};
        for (int[] both : marks) {
            is(false, () -> z.rule(0, -1, both[0], both[1]));
        }
    }

    private static void broke() {
        promise(9, "Breaks or mends a pipe.");
        Valvekeeper x = line(8);
        x.pipe(0, 1, 4, '-', 0, 3);
        x.broke(0, true);
        x.pass(1);
        is(0, () -> x.flow(0));
        says("- `pipe`: the pipe");
        is(8, () -> x.flow(1));
        says("- `isBroken`: whether it is broken");
        is(true, () -> x.broke(0, true));
        is(true, () -> x.broke(0, false));
        x.pass(1);
        is(4, () -> x.flow(0));
        says("Returns whether it was.");
        is(false, () -> x.broke(0, false));
        is(false, () -> x.broke(0, true));
        is(true, () -> x.broke(0, true));
        is(false, () -> x.broke(1, true));
        is(true, () -> x.broke(0, false));
        noSuchPipe((y, pipe) -> y.broke(pipe, true));
    }

    private static void setLeak() {
        promise(10, "Sets the leak of a junction.");
        Valvekeeper x = line(8);
        x.junction(0, 0);
        x.pipe(0, 2, 4, '-', 0, 3);
        x.setLeak(1, 7);
        x.pass(1);
        is(-56, () -> x.excess(1));
        says("- `node`: the node");
        x.setLeak(2, 1);
        x.pass(1);
        is(-10, () -> x.excess(2));
        is(-56, () -> x.excess(1));
        says("- `leak`: the leak, 0 to 50, 0 at first");
        is(0, () -> line(8).setLeak(1, 50));
        is(7, () -> x.setLeak(1, 50));
        x.pass(1);
        is(-400, () -> x.excess(1));
        is(50, () -> x.setLeak(1, 0));
        x.pass(1);
        is(0, () -> x.excess(1));
        says("Returns the leak before the call.");
        is(0, () -> x.setLeak(1, 3));
        is(3, () -> x.setLeak(1, 3));
        is(1, () -> x.setLeak(2, 0));
        noSuchNode((y, node) -> y.setLeak(node, 1));
        isTank((y, node) -> y.setLeak(node, 1));
        outOfRange((y, leak) -> y.setLeak(2, leak), -1, 51, LEAST, MOST);
        Said.refused(Due.INDEX, y -> y.setLeak(6, 51), y -> y.setLeak(-1, -1));
        Said.refused(Due.UNSUPPORTED, y -> y.setLeak(0, 51), y -> y.setLeak(5, -1));
    }

    private static void setPattern() {
        promise(11, "Sets the percentage of demands in an hour of the day.");
        Valvekeeper x = alone(10);
        x.setPattern(1, 50);
        x.pass(1);
        is(10, () -> x.reading(0));
        x.pass(1);
        is(15, () -> x.reading(0));
        says("- `hour`: the hour of the day, 0 to 23");
        x.setPattern(23, 200);
        x.setPattern(0, 300);
        x.pass(21);
        is(225, () -> x.reading(0));
        x.pass(1);
        is(245, () -> x.reading(0));
        x.pass(1);
        is(275, () -> x.reading(0));
        refused(Due.ARGUMENT, (y, hour) -> y.setPattern(hour, 100), -1, 24, LEAST, MOST);
        says("- `percent`: the percentage, 0 to 300");
        x.setPattern(1, 0);
        x.pass(1);
        is(275, () -> x.reading(0));
        is(100, () -> x.setPattern(2, 300));
        x.pass(1);
        is(305, () -> x.reading(0));
        refused(Due.ARGUMENT, (y, percent) -> y.setPattern(2, percent), -1, 301, LEAST, MOST);
        says("Returns the one before the call.");
        Valvekeeper z = new Valvekeeper();
        for (int i = 0; i < 24; i++) {
            int hour = i;
            is(100, () -> z.setPattern(hour, hour));
        }
        is(23, () -> z.setPattern(23, 300));
        is(300, () -> z.setPattern(23, 0));
        is(0, () -> z.setPattern(0, 0));
        says("Throws `IllegalArgumentException` if a number is out of range");
        Said.refused(Due.ARGUMENT, y -> y.setPattern(-1, -1), y -> y.setPattern(24, 301));
    }

    private static void setDrought() {
        promise(12, "Sets the percentage of demands in a drought.");
        Valvekeeper x = alone(99);
        x.setDrought(50);
        x.pass(2);
        is(98, () -> x.reading(0));
        says("- `percent`: the percentage, 0 to 100");
        is(50, () -> x.setDrought(0));
        x.pass(1);
        is(98, () -> x.reading(0));
        is(0, () -> x.setDrought(100));
        x.pass(1);
        is(197, () -> x.reading(0));
        says("Returns the one before the call.");
        is(100, () -> new Valvekeeper().setDrought(100));
        is(100, () -> x.setDrought(1));
        is(1, () -> x.setDrought(1));
        outOfRange(Valvekeeper::setDrought, -1, 101, LEAST, MOST);
    }

    private static void setTariff() {
        promise(13, "Sets the tariff of an hour of the day.");
        Valvekeeper x = pumps();
        x.pump(0, true);
        x.setTariff(1, 10);
        x.pass(1);
        is(6L, x::cost);
        x.pass(1);
        is(16L, x::cost);
        says("- `hour`: the hour of the day, 0 to 23");
        x.setTariff(23, 40);
        x.setTariff(0, 50);
        x.pass(21);
        is(37L, x::cost);
        x.pass(1);
        is(77L, x::cost);
        x.pass(1);
        is(127L, x::cost);
        refused(Due.ARGUMENT, (y, hour) -> y.setTariff(hour, 1), -1, 24, LEAST, MOST);
        says("- `tariff`: the tariff, 0 to 99, 1 at first");
        is(10, () -> x.setTariff(1, 0));
        x.pass(1);
        is(127L, x::cost);
        is(1, () -> x.setTariff(2, 99));
        x.pass(1);
        is(226L, x::cost);
        x.pass(1);
        is(227L, x::cost);
        refused(Due.ARGUMENT, (y, tariff) -> y.setTariff(2, tariff), -1, 100, LEAST, MOST);
        says("Returns the one before the call.");
        Valvekeeper z = new Valvekeeper();
        for (int i = 0; i < 24; i++) {
            int hour = i;
            is(1, () -> z.setTariff(hour, hour));
        }
        is(23, () -> z.setTariff(23, 99));
        is(99, () -> z.setTariff(23, 0));
        is(0, () -> z.setTariff(0, 0));
        says("Throws `IllegalArgumentException` if a number is out of range");
        Said.refused(Due.ARGUMENT, y -> y.setTariff(-1, -1), y -> y.setTariff(24, 100));
    }
}
