import java.io.IOException;

/** Promises 31 to 39: meters, line by line. */
public final class MetersPromisesTest extends Sentences {
    public static void main(String[] args) throws IOException {
        Said.begin();
        setPace();
        reading();
        bill();
        setDistrict();
        missed();
        used();
        dryShare();
        meanPressure();
        isTrue();
        end(31, 39);
    }

    private static void setPace() {
        promise(31, "Sets the pace of a meter, or lets it stand.");
        Valvekeeper x = alone(10);
        x.setPace(0, 50);
        x.pass(1);
        is(5, () -> x.reading(0));
        says("- `node`: the node");
        x.junction(0, 10);
        x.pass(1);
        is(10, () -> x.reading(0));
        is(10, () -> x.reading(2));
        says("- `pace`: the pace in hundredths, 0 to 200; 0 if it stands");
        x.setPace(0, 0);
        x.setPace(2, 200);
        x.pass(1);
        is(10, () -> x.reading(0));
        is(30, () -> x.reading(2));
        says("Returns the pace before the call.");
        is(0, () -> x.setPace(0, 1));
        is(1, () -> x.setPace(0, 100));
        is(200, () -> x.setPace(2, 200));
        is(100, () -> alone(0).setPace(0, 0));
        noSuchNode((y, node) -> y.setPace(node, 1));
        isTank((y, node) -> y.setPace(node, 1));
        outOfRange((y, pace) -> y.setPace(3, pace), -1, 201, LEAST, MOST);
        Said.refused(Due.INDEX, y -> y.setPace(6, 201), y -> y.setPace(-1, -1));
        Said.refused(Due.UNSUPPORTED, y -> y.setPace(0, 201), y -> y.setPace(5, -1));
    }

    private static void reading() {
        promise(32, "Returns the reading of a meter.");
        Valvekeeper x = alone(7);
        is(0, () -> x.reading(0));
        says("- `node`: the node");
        x.junction(0, 3);
        x.pass(1);
        is(7, () -> x.reading(0));
        is(3, () -> x.reading(2));
        says("Returns the reading.");
        x.pass(2);
        is(21, () -> x.reading(0));
        x.bill(0, true);
        x.bill(0, false);
        is(21, () -> x.reading(0));
        noSuchNode(Valvekeeper::reading);
        isTank(Valvekeeper::reading);
    }

    private static void bill() {
        promise(33, "Bills a junction.");
        Valvekeeper x = alone(7);
        x.pass(2);
        is(14, () -> x.bill(0, true));
        says("- `node`: the node");
        x.junction(0, 3);
        x.pass(1);
        is(3, () -> x.bill(2, true));
        is(7, () -> x.bill(0, true));
        says("- `isRead`: whether the meter is read");
        is(10, () -> x.bill(0, false));
        is(3, () -> x.bill(2, false));
        is(0, () -> alone(9).bill(0, false));
        is(0, () -> alone(9).bill(0, true));
        says("Returns the bill, less than 0 if earlier ones were too great by guess.");
        is(-10, () -> x.bill(0, true));
        is(-3, () -> x.bill(2, true));
        is(0, () -> x.bill(0, true));
        noSuchNode((y, node) -> y.bill(node, true), (y, node) -> y.bill(node, false));
        isTank((y, node) -> y.bill(node, true), (y, node) -> y.bill(node, false));
    }

    private static void setDistrict() {
        promise(34, "Puts a junction into a district.");
        Valvekeeper x = line(8);
        x.setPace(1, 0);
        x.pass(1);
        is(8, () -> x.missed(0));
        x.setDistrict(1, 2);
        is(0, () -> x.missed(0));
        is(8, () -> x.missed(2));
        says("- `node`: the node");
        x.junction(0, 0);
        x.setDistrict(2, 1);
        is(8, () -> x.missed(2));
        says("- `district`: the district, 0 to 3");
        x.setDistrict(1, 3);
        is(8, () -> x.missed(3));
        x.setDistrict(1, 0);
        is(8, () -> x.missed(0));
        says("Returns the district before the call.");
        is(0, () -> line(8).setDistrict(1, 3));
        is(0, () -> x.setDistrict(1, 3));
        is(3, () -> x.setDistrict(1, 3));
        is(1, () -> x.setDistrict(2, 0));
        noSuchNode((y, node) -> y.setDistrict(node, 1));
        isTank((y, node) -> y.setDistrict(node, 1));
        outOfRange((y, district) -> y.setDistrict(4, district), -1, 4, LEAST, MOST);
        Said.refused(Due.INDEX, y -> y.setDistrict(6, 4), y -> y.setDistrict(-1, -1));
        Said.refused(Due.UNSUPPORTED, y -> y.setDistrict(0, 4), y -> y.setDistrict(5, -1));
    }

    private static void missed() {
        promise(35, "Returns what a district missed in the last hour, by districts as they are now.");
        // The heads 100, 66, 33, 0 stay; 3 * 34 / 10 flow to 1, 3 * 33 / 10 on to 2, and 3 * 33 / 10 on to tank 3.
        Valvekeeper x = new Valvekeeper();
        x.tank(100, 50, 0);
        x.junction(66, 0);
        x.junction(33, 0);
        x.tank(0, 50, 0);
        x.pipe(0, 1, 3, '-', 0, 0);
        x.pipe(2, 1, 3, '-', 0, 0);
        x.pipe(2, 3, 3, '-', 0, 0);
        are(0, () -> x.missed(0), () -> x.missed(3));
        x.pass(1);
        x.broke(2, true);
        is(1, () -> x.missed(0));
        x.setDistrict(2, 3);
        is(1, () -> x.missed(0));
        is(0, () -> x.missed(3));
        x.setDistrict(1, 3);
        is(0, () -> x.missed(0));
        is(1, () -> x.missed(3));
        says("- `district`: the district, 0 to 3");
        are(0, () -> x.missed(1), () -> x.missed(2));
        says("Returns how much.");
        x.setDistrict(1, 0);
        x.setDrought(0);
        x.pass(1);
        // Without a way out of 2, 1 and 2 come to the head 99 or so: what flowed to 2 last is what it misses.
        int on = -x.flow(1);
        int in = x.flow(0);
        is(on, () -> x.missed(3));
        is(in - on, () -> x.missed(0));
        Valvekeeper z = line(8);
        z.setPace(1, 200);
        z.pass(1);
        is(-8, () -> z.missed(0));
        outOfRange(Valvekeeper::missed, -1, 4, LEAST, MOST);
        Said.refused(Twin.EMPTY, Due.ARGUMENT, y -> y.missed(-1), y -> y.missed(4));
    }

    private static void used() {
        promise(36, "Returns how much water was got and leaked in all.");
        Valvekeeper x = line(8);
        is(0L, x::used);
        x.pass(1);
        is(8L, x::used);
        x.setLeak(1, 3);
        x.pass(1);
        is(40L, x::used);
        says("Returns how much.");
        x.setPace(1, 0);
        x.pass(2);
        is(104L, x::used);
        x.junction(200, 99);
        x.pipe(0, 2, 1, '-', 0, 0);
        x.setLeak(2, 50);
        x.pass(1);
        is(true, () -> x.wasDry(2));
        is(136L, x::used);
    }

    private static void dryShare() {
        promise(37, "Returns the share of junctions that were dry in the last hour.");
        Valvekeeper x = new Valvekeeper();
        x.tank(50, 50, 0);
        x.junction(50, 0);
        x.junction(51, 0);
        x.junction(40, 0);
        for (int node = 1; node <= 3; node++) {
            x.pipe(0, node, 1, '-', 0, 0);
        }
        is(0f, x::dryShare);
        x.pass(1);
        is(1f / 3f, x::dryShare);
        x.broke(1, true);
        is(1f / 3f, x::dryShare);
        says("Returns their number divided by that of all junctions, both converted to float.");
        x.junction(0, 0);
        is(0.25f, x::dryShare);
        x.pass(1);
        is(0f, x::dryShare);
        Valvekeeper y = new Valvekeeper();
        y.tank(0, 50, 0);
        y.junction(1, 0);
        y.pipe(0, 1, 1, '-', 0, 0);
        y.pass(1);
        is(1f, y::dryShare);
        for (int node = 2; node <= 7; node++) {
            y.junction(node == 2 ? 9 : 0, 0);
            y.pipe(0, node, 1, '-', 0, 0);
        }
        y.pass(1);
        is(2f / 7f, y::dryShare);
        says("Throws `ArithmeticException` if there are no junctions");
        Said.refused(Twin.EMPTY, Due.ARITHMETIC, Valvekeeper::dryShare);
        Valvekeeper z = new Valvekeeper();
        z.tank(0, 1, 0);
        is(Due.ARITHMETIC, z::dryShare);
        z.pass(1);
        is(Due.ARITHMETIC, z::dryShare);
    }

    private static void meanPressure() {
        promise(38, "Returns the mean pressure of the junctions, each first divided by 10 and rounded to the nearest "
            + "whole number, as Math.rint does it.");
        for (int pressure = -100; pressure <= 100; pressure++) {
            int of = pressure;
            is((Math.rint(of / 10.0) + 5) / 2, () -> pressed(of).meanPressure());
        }
        says("Returns the sum divided by their number.");
        Valvekeeper x = pressed(-27);
        x.junction(0, 0);
        // -3, 5 and, new, 0.
        is(2.0 / 3.0, x::meanPressure);
        is(0.0, () -> alone(9).meanPressure());
        says("Throws `ArithmeticException` if there are no junctions");
        Said.refused(Twin.EMPTY, Due.ARITHMETIC, Valvekeeper::meanPressure);
        Valvekeeper z = new Valvekeeper();
        z.tank(0, 1, 0);
        is(Due.ARITHMETIC, z::meanPressure);
        z.pass(1);
        is(Due.ARITHMETIC, z::meanPressure);
    }

    /** A junction with this pressure, and one whose pressure of 50 counts as 5. */
    private static Valvekeeper pressed(int pressure) {
        Valvekeeper x = new Valvekeeper();
        x.tank(100, 50, 0);
        x.junction(100 - pressure, 0);
        x.junction(50, 0);
        x.pipe(0, 1, 1, '-', 0, 0);
        x.pipe(0, 2, 1, '-', 0, 0);
        x.pass(1);
        return x;
    }

    private static void isTrue() {
        promise(39, "Checks that for each pipe with a set to shut, the pipe would be shut off by shutting it, and not "
            + "by shutting all of it but one, whichever that is.");
        Valvekeeper[] cities = {row(), Twin.CITY.make(), Twin.FULL.make()};
        for (Valvekeeper x : cities) {
            is(true, x::isTrue);
            for (int pipe = 0; pipe < 3; pipe++) {
                shutOneByOne(x, pipe);
            }
            is(true, x::isTrue);
        }
        says("Returns whether all of it holds.");
        is(true, () -> new Valvekeeper().isTrue());
        is(true, () -> Twin.BARE.make().isTrue());
        Valvekeeper z = row();
        z.shut(2);
        z.stick(0, false, true);
        z.broke(1, true);
        is(true, z::isTrue);
        is(1, z::turned);
    }

    /** With all of the set shut the pipe is shut off; with any one of it open it is not. Opens them all again. */
    private static void shutOneByOne(Valvekeeper x, int pipe) {
        int[] valves = new int[x.toShut(pipe)];
        is(true, () -> valves.length > 0);
        for (int i = 0; i < valves.length; i++) {
            valves[i] = x.toShutAt(pipe, i);
        }
        for (int valve : valves) {
            x.valve(valve / 2, valve % 2 == 1, false);
        }
        is(true, () -> x.isShutOff(pipe));
        for (int valve : valves) {
            x.valve(valve / 2, valve % 2 == 1, true);
            is(false, () -> x.isShutOff(pipe));
            x.valve(valve / 2, valve % 2 == 1, false);
        }
        for (int valve : valves) {
            x.valve(valve / 2, valve % 2 == 1, true);
        }
    }
}
