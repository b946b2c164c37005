import java.io.IOException;

/** Promises 25 to 30: breaks, line by line. */
public final class BreaksPromisesTest extends Sentences {
    public static void main(String[] args) throws IOException {
        Said.begin();
        isShutOff();
        toShut();
        toShutAt();
        shut();
        isCutOff();
        turned();
        end(25, 30);
    }

    private static void isShutOff() {
        promise(25, "Returns whether the part of a pipe is shut off.");
        Valvekeeper x = row();
        is(false, () -> x.isShutOff(1));
        x.valve(0, true, false);
        is(true, () -> x.isShutOff(1));
        says("- `pipe`: the pipe");
        is(false, () -> x.isShutOff(0));
        is(true, () -> x.isShutOff(2));
        says("Returns whether it is.");
        x.valve(0, true, true);
        are(false, () -> x.isShutOff(0), () -> x.isShutOff(1), () -> x.isShutOff(2));
        noSuchPipe(Valvekeeper::isShutOff);
    }

    private static void toShut() {
        promise(26, "Returns how many valves are in the set to shut for a pipe.");
        Valvekeeper x = row();
        x.tank(0, 1, 0);
        x.pipe(3, 4, 1, '-', 0, 3);
        is(2, () -> x.toShut(1));
        says("- `pipe`: the pipe");
        x.valve(1, true, false);
        is(1, () -> x.toShut(1));
        is(1, () -> x.toShut(2));
        says("Returns how many.");
        x.valve(0, false, false);
        are(0, () -> x.toShut(0), () -> x.toShut(1));
        x.valve(3, false, false);
        is(0, () -> x.toShut(2));
        is(1, () -> x.toShut(3));
        noSuchPipe(Valvekeeper::toShut);
        hasNoSet(Valvekeeper::toShut);
    }

    private static void toShutAt() {
        promise(27, "Returns a valve of this set.");
        Valvekeeper x = row();
        x.tank(0, 1, 0);
        x.pipe(3, 4, 1, '-', 0, 3);
        is(0, () -> x.toShutAt(1, 0));
        says("- `pipe`: the pipe");
        is(1, () -> x.toShutAt(0, 1));
        is(3, () -> x.toShutAt(1, 1));
        says("- `index`: the index in the order told, from 0");
        is(0, () -> x.toShutAt(3, 0));
        is(7, () -> x.toShutAt(3, 1));
        says("Returns 2 times the pipe of the valve, plus 1 if it is at its second end.");
        x.stick(0, false, true);
        is(1, () -> x.toShutAt(1, 0));
        x.stick(0, true, true);
        is(2, () -> x.toShutAt(1, 0));
        noSuchPipe((y, pipe) -> y.toShutAt(pipe, 0));
        Said.refused(Due.INDEX, y -> y.toShutAt(6, -1), y -> y.toShutAt(-1, 99));
        hasNoSet((y, pipe) -> y.toShutAt(pipe, 0));
        Said.refused(Twin.BARE, Due.NO_ELEMENT, y -> y.toShutAt(0, -1), y -> y.toShutAt(0, 1));
        says("Throws `IllegalArgumentException` if there is no such index");
        int size = Twin.CITY.make().toShut(1);
        refused(Due.ARGUMENT, (y, index) -> y.toShutAt(1, index), -1, size, 48, LEAST, MOST);
        x.valve(1, false, false);
        x.valve(1, true, false);
        are(Due.ARGUMENT, () -> x.toShutAt(1, 0), () -> x.toShutAt(1, -1), () -> x.toShutAt(1, 1));
    }

    private static void shut() {
        promise(28, "Shuts these valves.");
        Valvekeeper x = row();
        x.tank(0, 1, 0);
        x.pipe(3, 4, 1, '-', 0, 3);
        x.shut(1);
        is(true, () -> x.isShutOff(1));
        is(2, x::turned);
        are(true, () -> x.valve(0, false, false), () -> x.valve(1, true, false));
        is(2, x::turned);
        says("- `pipe`: the pipe");
        is(false, () -> x.isShutOff(2));
        says("Returns how many junctions are cut off by that that were not.");
        is(0, () -> x.shut(1));
        is(2, () -> x.shut(3));
        is(0, () -> x.shut(2));
        is(3, () -> row().shut(0));
        Valvekeeper z = row();
        z.valve(2, false, false);
        is(2, () -> z.shut(1));
        noSuchPipe(Valvekeeper::shut);
        hasNoSet(Valvekeeper::shut);
    }

    private static void isCutOff() {
        promise(29, "Returns whether a node is cut off.");
        Valvekeeper x = row();
        is(false, () -> x.isCutOff(3));
        x.valve(2, false, false);
        is(true, () -> x.isCutOff(3));
        says("- `node`: the node");
        is(false, () -> x.isCutOff(2));
        says("Returns whether it is; false for tanks.");
        x.valve(0, false, false);
        are(true, () -> x.isCutOff(1), () -> x.isCutOff(2));
        is(false, () -> x.isCutOff(0));
        is(4, () -> x.tank(0, 1, 0));
        is(false, () -> x.isCutOff(4));
        noSuchNode(Valvekeeper::isCutOff);
    }

    private static void turned() {
        promise(30, "Returns how many turns of valves there were.");
        Valvekeeper x = row();
        is(0, x::turned);
        x.valve(0, false, false);
        is(1, x::turned);
        x.valve(0, false, true);
        is(2, x::turned);
        x.shut(2);
        is(3, x::turned);
        says("Returns how many valves were opened or shut, those that were so already aside.");
        x.valve(0, false, false);
        x.valve(1, false, true);
        x.shut(2);
        is(3, x::turned);
        x.stick(0, false, true);
        x.valve(0, false, true);
        is(3, x::turned);
        are(Due.INDEX, () -> x.valve(3, false, false), () -> x.shut(-1));
        x.broke(0, true);
        x.pass(1);
        is(3, x::turned);
    }
}
