import java.io.IOException;

/** Promises 14 to 24: hours, line by line. */
public final class HoursPromisesTest extends Sentences {
    public static void main(String[] args) throws IOException {
        Said.begin();
        pass();
        head();
        flow();
        sweeps();
        wasDry();
        water();
        excess();
        quality();
        foul();
        cost();
        fire();
        fireOfOthers();
        end(14, 24);
    }

    private static void pass() {
        promise(14, "Lets hours go by.");
        Valvekeeper x = alone(1);
        x.pass(3);
        is(3, () -> x.reading(0));
        says("- `hours`: how many, 1 to 24");
        x.pass(1);
        is(4, () -> x.reading(0));
        x.pass(24);
        is(28, () -> x.reading(0));
        says("Returns the number of hours that went by.");
        is(29, () -> x.pass(1));
        is(53, () -> x.pass(24));
        is(1, () -> alone(1).pass(1));
        is(24, () -> alone(1).pass(24));
        outOfRange(Valvekeeper::pass, 0, 25, -1, LEAST, MOST);
        Said.refused(Twin.EMPTY, Due.ARGUMENT, y -> y.pass(0), y -> y.pass(25));
        Said.refused(Twin.OLD, Due.ARGUMENT, y -> y.pass(0), y -> y.pass(25), y -> y.pass(MOST));
        says("Throws `IllegalStateException` if there would be more than 2000");
        // 1993 hours went by in it.
        Said.refused(Twin.OLD, Due.STATE, y -> y.pass(8), y -> y.pass(24));
        Valvekeeper old = Twin.OLD.make();
        is(2000, () -> old.pass(7));
        long used = old.used();
        are(Due.STATE, () -> old.pass(1), () -> old.pass(24));
        are(Due.ARGUMENT, () -> old.pass(0), () -> old.pass(25));
        is(used, old::used);
        Valvekeeper one = Twin.OLD.make();
        is(1999, () -> one.pass(6));
        is(Due.STATE, () -> one.pass(2));
        is(2000, () -> one.pass(1));
        is(Due.STATE, () -> one.pass(1));
    }

    private static void head() {
        promise(15, "Returns the head of a node, as it was found last.");
        Valvekeeper x = line(8);
        is(0, () -> x.head(1));
        x.pass(1);
        is(80, () -> x.head(1));
        x.broke(0, true);
        x.setDrought(0);
        x.fire(1);
        is(80, () -> x.head(1));
        x.pass(1);
        is(0, () -> x.head(1));
        says("- `node`: the node");
        is(2, () -> x.tank(20, 7, 699));
        is(3, () -> x.junction(33, 0));
        is(33, () -> x.head(3));
        says("Returns the head; of a tank, as it is now.");
        is(119, () -> x.head(2));
        x.pipe(2, 0, 5, '-', 0, 0);
        x.pass(1);
        // 5 * 19 / 10 flow out of 699: 690 / 7.
        is(118, () -> x.head(2));
        is(100, () -> x.head(0));
        noSuchNode(Valvekeeper::head);
    }

    private static void flow() {
        promise(16, "Returns what flowed in a pipe in the last hour.");
        Valvekeeper x = line(8);
        x.pipe(1, 0, 4, '-', 0, 3);
        is(0, () -> x.flow(0));
        x.pass(1);
        is(4, () -> x.flow(0));
        x.broke(0, true);
        x.setDrought(0);
        is(4, () -> x.flow(0));
        x.pass(1);
        is(0, () -> x.flow(0));
        says("- `pipe`: the pipe");
        x.broke(0, false);
        x.setDrought(100);
        x.broke(1, true);
        x.pass(1);
        is(8, () -> x.flow(0));
        is(0, () -> x.flow(1));
        says("Returns the water, less than 0 from the second node to the first one.");
        x.broke(1, false);
        x.pass(1);
        is(4, () -> x.flow(0));
        is(-4, () -> x.flow(1));
        noSuchPipe(Valvekeeper::flow);
    }

    private static void sweeps() {
        promise(17, "Returns the sweeps of the last hour.");
        is(0, () -> new Valvekeeper().sweeps());
        Valvekeeper x = line(8);
        is(0, x::sweeps);
        x.pass(1);
        is(2, x::sweeps);
        x.fire(1);
        is(2, x::sweeps);
        says("Returns how many.");
        x.pass(1);
        is(1, x::sweeps);
        x.setDrought(0);
        x.pass(24);
        is(1, x::sweeps);
        x.setDrought(50);
        x.pass(1);
        is(2, x::sweeps);
        x.junction(0, 0);
        x.pipe(0, 2, 1, '>', 0, 0);
        x.pass(1);
        is(60, x::sweeps);
    }

    private static void wasDry() {
        promise(18, "Returns whether a junction was dry in the last hour.");
        Valvekeeper x = new Valvekeeper();
        x.tank(100, 50, 0);
        x.junction(60, 4);
        x.junction(61, 4);
        x.pipe(0, 1, 1, '-', 0, 0);
        x.pipe(0, 2, 1, '-', 0, 0);
        is(false, () -> x.wasDry(2));
        x.pass(1);
        is(true, () -> x.wasDry(2));
        x.setDrought(0);
        x.fire(2);
        is(true, () -> x.wasDry(2));
        says("- `node`: the node");
        is(false, () -> x.wasDry(1));
        says("Returns whether it was; false for tanks.");
        is(false, () -> x.wasDry(0));
        x.pass(1);
        is(false, () -> x.wasDry(2));
        noSuchNode(Valvekeeper::wasDry);
    }

    private static void water() {
        promise(19, "Returns the water of a tank.");
        Valvekeeper x = new Valvekeeper();
        x.tank(100, 50, 49);
        x.tank(0, 1, 0);
        x.pipe(0, 1, 1, '-', 0, 0);
        is(49, () -> x.water(0));
        says("- `node`: the node");
        is(0, () -> x.water(1));
        says("Returns the water.");
        x.pass(1);
        is(39, () -> x.water(0));
        is(10, () -> x.water(1));
        noSuchNode(Valvekeeper::water);
        isNoTank(Valvekeeper::water);
    }

    private static void excess() {
        promise(20, "Returns how much more came to a junction in the last hour than went out of it, was got and "
            + "leaked.");
        Valvekeeper x = line(8);
        x.tank(0, 50, 0);
        x.pipe(2, 1, 1, '-', 0, 3);
        x.setLeak(1, 1);
        is(0, () -> x.excess(1));
        x.pass(1);
        // (400 + 0 - 80) / 5 = 64: 4 * 36 / 10 came, 64 / 10 went out, 8 were got, 64 / 10 leaked.
        is(64, () -> x.head(1));
        is(-6, () -> x.excess(1));
        x.setLeak(1, 50);
        x.broke(0, true);
        is(-6, () -> x.excess(1));
        says("- `node`: the node");
        x.junction(0, 5);
        is(0, () -> x.excess(3));
        x.pass(1);
        is(-5, () -> x.excess(3));
        says("Returns how much, less than 0 if it was less; 0 for a tank.");
        are(0, () -> x.excess(0), () -> x.excess(2));
        Valvekeeper y = new Valvekeeper();
        y.tank(60, 50, 0);
        y.junction(90, 4);
        y.pipe(0, 1, 2, '-', 0, 0);
        y.pass(1);
        // (120 - 40) / 2 = 40: dry, and 2 * 20 / 10 came all the same.
        is(4, () -> y.excess(1));
        noSuchNode(Valvekeeper::excess);
    }

    private static void quality() {
        promise(21, "Returns something of the quality of a node.");
        Valvekeeper x = line(8);
        x.foul(0, 77);
        are(0, () -> x.quality(1, 'a'), () -> x.quality(1, 'c'), () -> x.quality(1, 'f'));
        x.pass(1);
        says("- `node`: the node");
        is(1000, () -> x.quality(0, 'c'));
        is(900, () -> x.quality(1, 'c'));
        says("- `what`: 'a' the age, 'c' the chlorine, 'f' the foul");
        is(0, () -> x.quality(0, 'a'));
        is(1, () -> x.quality(1, 'a'));
        are(77, () -> x.quality(0, 'f'), () -> x.quality(1, 'f'));
        says("Returns how much.");
        x.broke(0, true);
        x.pass(1);
        is(2, () -> x.quality(1, 'a'));
        is(810, () -> x.quality(1, 'c'));
        is(77, () -> x.quality(1, 'f'));
        noSuchNode((y, node) -> y.quality(node, 'a'));
        says("Throws `IllegalArgumentException` if there is no such thing");
        refused(Due.ARGUMENT, (y, what) -> y.quality(1, (char) what), 0, '`', 'b', 'd', 'e', 'g', 'A', 'C', 'F', 65535);
        Said.refused(Due.ARGUMENT, y -> y.quality(0, 'x'));
        Said.refused(Due.INDEX, y -> y.quality(6, 'x'), y -> y.quality(-1, 'x'));
    }

    private static void foul() {
        promise(22, "Sets the foul of a tank.");
        Valvekeeper x = line(8);
        x.foul(0, 300);
        is(300, () -> x.quality(0, 'f'));
        x.pass(1);
        is(300, () -> x.quality(1, 'f'));
        says("- `node`: the node");
        x.tank(0, 1, 0);
        x.foul(2, 5);
        is(300, () -> x.quality(0, 'f'));
        is(5, () -> x.quality(2, 'f'));
        says("- `part`: the part, 0 to 1000");
        x.foul(0, 1000);
        is(1000, () -> x.quality(0, 'f'));
        x.foul(0, 0);
        is(0, () -> x.quality(0, 'f'));
        says("Returns the part before the call.");
        is(5, () -> x.foul(2, 1000));
        is(1000, () -> x.foul(2, 1000));
        is(0, () -> x.foul(0, 0));
        is(0, () -> line(8).foul(0, 0));
        noSuchNode((y, node) -> y.foul(node, 1));
        isNoTank((y, node) -> y.foul(node, 1));
        outOfRange((y, part) -> y.foul(0, part), -1, 1001, LEAST, MOST);
        Said.refused(Due.INDEX, y -> y.foul(6, 1001), y -> y.foul(-1, -1));
        Said.refused(Due.UNSUPPORTED, y -> y.foul(1, 1001), y -> y.foul(4, -1));
    }

    private static void cost() {
        promise(23, "Returns what pumps cost in all.");
        Valvekeeper x = pumps();
        is(0L, x::cost);
        x.pump(0, true);
        is(0L, x::cost);
        x.pump(1, true);
        x.pass(1);
        is(12L, x::cost);
        says("Returns the cost.");
        x.pass(24);
        is(60L, x::cost);
        x.pump(0, false);
        x.pump(1, false);
        x.pass(24);
        is(60L, x::cost);
    }

    private static void fire() {
        promise(24, "Finds the greatest demand that a hydrant at a junction can have beside its own one, 0 to 99,");
        is(40, () -> line(0).fire(1));
        is(39, () -> line(1).fire(1));
        is(0, () -> line(40).fire(1));
        Valvekeeper x = new Valvekeeper();
        x.tank(140, 50, 0);
        x.junction(0, 0);
        x.junction(1, 0);
        x.pipe(0, 1, 7, '-', 0, 0);
        x.pipe(0, 2, 7, '-', 0, 0);
        is(98, () -> x.fire(1));
        is(97, () -> x.fire(2));
        Valvekeeper y = new Valvekeeper();
        y.tank(142, 50, 0);
        y.junction(0, 0);
        y.junction(0, 0);
        y.pipe(0, 1, 7, '-', 0, 0);
        y.pipe(0, 2, 8, '-', 0, 0);
        // 99 still leave a pressure of 0, (994 - 990) / 7, and of 18; but no hydrant has more.
        are(99, () -> y.fire(1), () -> y.fire(2));
        says("such that for it, and for each lesser one,");
        // With 3 beside it, junction 2 has the head 33; with 4, 31; with 7 junction 3 pulls no more, and 2 has 33.
        Valvekeeper z = new Valvekeeper();
        z.tank(43, 50, 0);
        z.junction(46, 5);
        z.junction(32, 1);
        z.junction(37, 4);
        z.pipe(2, 0, 8, '-', 0, 0);
        z.pipe(2, 3, 9, '>', 0, 0);
        z.pass(1);
        is(3, () -> z.fire(2));
    }

    private static void fireOfOthers() {
        says("no junction that is not dry without it would be dry,");
        Valvekeeper x = new Valvekeeper();
        x.tank(100, 50, 0);
        x.junction(0, 0);
        x.junction(60, 0);
        x.junction(150, 0);
        x.pipe(0, 1, 1, '-', 0, 0);
        x.pipe(1, 2, 1, '-', 0, 0);
        x.pipe(1, 3, 1, '-', 0, 0);
        x.pass(1);
        // 3 is dry without it. With 4, 1 and 2 have at last 63 and 62; with 5, 2 comes to 59.
        is(true, () -> x.wasDry(3));
        is(4, () -> x.fire(1));
        // Without it 2 has a pressure of -1, and 3 one of 0.
        Valvekeeper w = new Valvekeeper();
        w.tank(100, 50, 0);
        w.junction(0, 0);
        w.junction(61, 4);
        w.junction(60, 4);
        w.pipe(0, 1, 4, '-', 0, 0);
        w.pipe(0, 2, 1, '-', 0, 0);
        w.pipe(0, 3, 1, '-', 0, 0);
        is(40, () -> w.fire(1));
        is(-1, () -> w.fire(2));
        is(0, () -> w.fire(3));
        says("with heads found from those that are there now,");
        // With 5, junction 0 comes from 0 up to -1 alone; from 99, as an hour left it, down to 0.
        Valvekeeper y = new Valvekeeper();
        y.junction(0, 0);
        y.junction(0, 0);
        y.tank(100, 50, 0);
        y.pipe(0, 1, 1, '-', 0, 0);
        y.pipe(1, 2, 1, '-', 0, 0);
        are(4, () -> y.fire(0), () -> y.fire(0));
        y.pass(1);
        are(5, () -> y.fire(0), () -> y.fire(0));
        says("by demands of the hour that comes next;");
        Valvekeeper z = line(10);
        z.setPattern(0, 200);
        z.setPattern(1, 300);
        z.setPattern(23, 0);
        z.setDrought(90);
        // 10 * 200 / 100 * 90 / 100 = 18 of 40; 27 of 40.
        is(22, () -> z.fire(1));
        z.pass(1);
        is(13, () -> z.fire(1));
        z.pass(22);
        is(40, () -> z.fire(1));
        z.pass(1);
        is(22, () -> z.fire(1));
        says("nothing changes by that.");
        for (int node = 1; node <= 4; node++) {
            int at = node;
            Valvekeeper city = Twin.CITY.make();
            is(true, () -> city.fire(at) >= -1);
            is(Twin.CITY.answers(), () -> Twin.CITY.answersOf(city));
        }
        says("- `node`: the node");
        is(false, () -> x.fire(2) == x.fire(1));
        says("Returns the demand, -1 if it is dry without any.");
        is(-1, () -> x.fire(3));
        is(-1, () -> line(41).fire(1));
        is(99, () -> alone(99).fire(0));
        noSuchNode(Valvekeeper::fire);
        isTank(Valvekeeper::fire);
    }
}
