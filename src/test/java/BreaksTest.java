/** Promises 25 to 30, and 39: parts, sets of valves to shut, and who is cut off. */
public final class BreaksTest {
    private static final int LEAST = Integer.MIN_VALUE;
    private static final int MOST = Integer.MAX_VALUE;

    public static void main(String[] args) {
        isShutOff();
        partsGoAnyWay();
        toShut();
        toShutWithStuckValves();
        noSetToShut();
        setNeedNotBeAtThePipe();
        firstOfSeveralSets();
        lastOfTheSetIsTheFirstToo();
        waysThatFork();
        waysThatGiveWay();
        fewestAheadOfFirst();
        toShutAt();
        shut();
        shutCountsThoseThatWereNot();
        isCutOff();
        turned();
        greatestNet();
        isTrue();
        Due.end();
    }

    /** Tank 0, junctions 1 to 3 in a row by pipes 0 to 2, each with valves at both ends. */
    private static Valvekeeper row() {
        Valvekeeper x = new Valvekeeper();
        x.tank(100, 50, 0);
        for (int node = 1; node <= 3; node++) {
            x.junction(0, 1);
            x.pipe(node - 1, node, 4, '-', 0, 3);
        }
        return x;
    }

    private static void set(String what, Valvekeeper x, int pipe, int... valves) {
        Due.is(what + ", how many", valves.length, () -> x.toShut(pipe));
        for (int i = 0; i < valves.length; i++) {
            int index = i;
            Due.is(what + ", valve " + i, valves[i], () -> x.toShutAt(pipe, index));
        }
        Due.is(what + ", no more", Due.ARGUMENT, () -> x.toShutAt(pipe, valves.length));
        Due.is(what + ", holds", true, x::isTrue);
    }

    private static void isShutOff() {
        Valvekeeper x = row();
        Due.allOf("25: with a tank", false, () -> x.isShutOff(0), () -> x.isShutOff(1), () -> x.isShutOff(2));
        x.valve(1, false, false);
        Due.is("25: this side of a shut valve", false, () -> x.isShutOff(0));
        Due.allOf("25: beyond it", true, () -> x.isShutOff(1), () -> x.isShutOff(2));
        x.valve(1, false, true);
        x.valve(1, true, false);
        Due.is("25: a pipe whose other end is shut", false, () -> x.isShutOff(1));
        Due.is("25: beyond it", true, () -> x.isShutOff(2));
        x.tank(0, 1, 0);
        x.pipe(4, 3, 1, '-', 0, 0);
        Due.is("25: a tank from the other side", false, () -> x.isShutOff(2));
        Due.allOf("25: no such pipe", Due.INDEX, () -> x.isShutOff(-1), () -> x.isShutOff(4),
            () -> x.isShutOff(LEAST), () -> x.isShutOff(MOST));
        Valvekeeper y = new Valvekeeper();
        y.junction(0, 0);
        y.junction(0, 0);
        y.pipe(0, 1, 1, '-', 0, 0);
        Due.is("25: no tank at all", true, () -> y.isShutOff(0));
    }

    private static void partsGoAnyWay() {
        Valvekeeper x = new Valvekeeper();
        x.junction(0, 0);
        x.junction(0, 0);
        x.junction(0, 0);
        x.tank(0, 1, 0);
        x.pipe(0, 1, 1, '-', 0, 1);
        x.pipe(1, 2, 1, '>', 0, 2);
        x.pipe(2, 3, 1, 'p', 9, 1);
        x.broke(1, true);
        Due.is("25: against no flow, by a pump that is off, by a broken pipe", false, () -> x.isShutOff(0));
        Due.is("29: so too", false, () -> x.isCutOff(0));
        Valvekeeper y = new Valvekeeper();
        y.tank(0, 1, 0);
        y.junction(0, 0);
        y.junction(0, 0);
        y.pipe(0, 1, 1, '>', 0, 0);
        y.pipe(2, 1, 1, '>', 0, 0);
        y.pipe(2, 1, 1, 'p', 9, 0);
        Due.allOf("25: one way alone, both ways round", false, () -> y.isShutOff(1), () -> y.isShutOff(2));
        Due.is("29: so too", false, () -> y.isCutOff(2));
    }

    private static void toShut() {
        Valvekeeper x = row();
        set("26: the first pipe", x, 0, 0);
        set("26: the second pipe, by the first valve of several", x, 1, 0);
        set("26: the third pipe, by the first valve of several", x, 2, 0);
        x.valve(0, false, false);
        set("26: none if it is shut off", x, 0);
        set("26: none if it is shut off", x, 2);
        x.valve(0, false, true);
        x.valve(0, true, false);
        set("26: a shut valve is no part of it", x, 0, 0);
        set("26: none behind the shut valve", x, 1);
        Due.allOf("26: no such pipe", Due.INDEX, () -> x.toShut(-1), () -> x.toShut(3), () -> x.toShut(LEAST),
            () -> x.toShut(MOST));
        Due.is("26: it shuts nothing", 3, x::turned);
    }

    private static void toShutWithStuckValves() {
        Valvekeeper x = row();
        x.stick(0, false, true);
        set("26: a stuck one is passed over", x, 2, 1);
        Due.is("26: nothing between this pipe and the tank", Due.NO_ELEMENT, () -> x.toShut(0));
        x.stick(0, true, true);
        set("26: two stuck ones are passed over", x, 2, 2);
        x.stick(1, false, true);
        Due.is("26: no set", Due.NO_ELEMENT, () -> x.toShut(1));
        set("26: the next one", x, 2, 3);
        x.stick(0, false, false);
        x.valve(0, false, false);
        x.stick(0, false, true);
        set("26: a valve that is stuck as it is shut", x, 1);
        set("26: a valve that is stuck as it is shut", x, 2);
    }

    private static void noSetToShut() {
        Valvekeeper x = new Valvekeeper();
        x.tank(0, 1, 0);
        x.junction(0, 0);
        x.junction(0, 0);
        x.pipe(0, 1, 1, '-', 0, 2);
        x.pipe(1, 2, 1, '-', 0, 1);
        Due.is("26: no valve toward the tank", Due.NO_ELEMENT, () -> x.toShut(0));
        Due.is("27: no valve toward the tank", Due.NO_ELEMENT, () -> x.toShutAt(0, 0));
        Due.is("27: whatever the index", Due.NO_ELEMENT, () -> x.toShutAt(0, -1));
        Due.is("28: no valve toward the tank", Due.NO_ELEMENT, () -> x.shut(0));
        Due.is("28: nothing shut", 0, x::turned);
        set("26: the other one has a set", x, 1, 1);
        Due.is("39: a pipe without a set does no harm", true, x::isTrue);
    }

    /** A pipe without valves in the middle: the set lies two pipes away, on both sides. */
    private static void setNeedNotBeAtThePipe() {
        Valvekeeper x = new Valvekeeper();
        x.tank(0, 1, 0);
        x.junction(0, 0);
        x.junction(0, 0);
        x.tank(0, 1, 0);
        x.pipe(1, 2, 1, '-', 0, 0);
        x.pipe(2, 3, 1, '-', 0, 2);
        x.pipe(0, 1, 1, '-', 0, 1);
        set("26: both sides", x, 0, 3, 4);
        Due.is("28: both junctions", 2, () -> x.shut(0));
        Due.is("28: shut off", true, () -> x.isShutOff(0));
    }

    private static void firstOfSeveralSets() {
        Valvekeeper x = new Valvekeeper();
        x.junction(0, 0);
        x.junction(0, 0);
        x.junction(0, 0);
        x.tank(0, 1, 0);
        x.pipe(0, 1, 1, '-', 0, 1);
        x.pipe(3, 1, 1, '-', 0, 3);
        x.pipe(2, 0, 1, '-', 0, 3);
        x.pipe(2, 3, 1, '-', 0, 3);
        // From pipe 2 there are two ways: by node 0 and pipes 0, 1, and by node 2 and pipe 3.
        set("27: the first of each way, as they stand in their order", x, 2, 0, 4);
        set("27: the first end ahead of the second one", x, 3, 0, 7);
        set("27: pipe 1, that is held on both sides", x, 1, 0, 2);
        x.stick(0, false, true);
        set("27: the next ones", x, 2, 2, 4);
        x.stick(2, false, true);
        set("27: and the next ones", x, 2, 2, 6);
    }

    /** Both ways go to the same node, so its one valve beyond is the set. */
    private static void lastOfTheSetIsTheFirstToo() {
        Valvekeeper x = new Valvekeeper();
        x.junction(0, 0);
        x.junction(0, 0);
        x.tank(0, 1, 0);
        x.pipe(0, 1, 1, '-', 0, 3);
        x.pipe(1, 0, 1, '-', 0, 3);
        x.pipe(1, 2, 1, '-', 0, 2);
        set("27: one valve, though it comes last", x, 0, 5);
        set("27: one valve, though it comes last", x, 1, 5);
        set("27: one valve, though it comes last", x, 2, 5);
    }

    /** One way has its single valve first; the other one forks and joins again ahead of its single valve. */
    private static void waysThatFork() {
        Valvekeeper x = new Valvekeeper();
        x.junction(0, 0);
        x.junction(0, 0);
        x.junction(0, 0);
        x.tank(0, 1, 0);
        x.pipe(0, 3, 1, '-', 0, 1);
        x.pipe(1, 2, 1, '-', 0, 1);
        x.pipe(1, 2, 1, '-', 0, 1);
        x.pipe(2, 3, 1, '-', 0, 1);
        x.pipe(0, 1, 1, '-', 0, 0);
        set("27: no valve of the fork", x, 4, 0, 6);
        x.pipe(1, 2, 1, '>', 0, 1);
        x.pipe(2, 3, 1, '>', 0, 2);
        set("27: no valve of the greater fork", x, 4, 0, 6, 13);
    }

    /**
     * The shortest way to the tank goes over pipe 2, but two ways without a common valve are only found if
     * neither does.
     */
    private static void waysThatGiveWay() {
        Valvekeeper x = new Valvekeeper();
        for (int i = 0; i < 8; i++) {
            x.junction(0, 0);
        }
        x.tank(0, 1, 0);
        x.pipe(0, 1, 1, '-', 0, 0);
        int[] from = {0, 2, 3, 1, 6, 7, 2, 4, 5};
        int[] to = {2, 3, 8, 6, 7, 3, 4, 5, 8};
        for (int i = 0; i < from.length; i++) {
            x.pipe(from[i], to[i], 1, '-', 0, 1);
        }
        set("26: two ways", x, 0, 2, 8);
        x.stick(1, false, true);
        set("26: two ways", x, 0, 6, 14);
        x.stick(3, false, true);
        Due.is("26: no set", Due.NO_ELEMENT, () -> x.toShut(3));
        set("26: two ways from its two ends", x, 8, 14, 18);
    }

    private static void fewestAheadOfFirst() {
        Valvekeeper x = new Valvekeeper();
        x.tank(0, 1, 0);
        x.junction(0, 0);
        x.junction(0, 0);
        for (int i = 0; i < 3; i++) {
            x.pipe(0, 1, 1, '-', 0, 3);
        }
        x.pipe(1, 2, 1, '-', 0, 1);
        set("26: fewer, though later", x, 3, 6);
        x.stick(3, false, true);
        set("26: three of six", x, 3, 0, 2, 4);
        x.valve(1, true, false);
        set("26: two of four", x, 3, 0, 4);
        set("26: one side of a pipe is shut", x, 1, 2);
        x.valve(1, false, false);
        set("26: both sides are", x, 1);
    }

    private static void toShutAt() {
        Valvekeeper x = row();
        x.tank(0, 1, 0);
        x.pipe(3, 4, 1, '-', 0, 3);
        Due.is("27: the first", 0, () -> x.toShutAt(1, 0));
        Due.is("27: the second", 3, () -> x.toShutAt(1, 1));
        Due.allOf("27: no such index", Due.ARGUMENT, () -> x.toShutAt(1, -1), () -> x.toShutAt(1, 2),
            () -> x.toShutAt(1, LEAST), () -> x.toShutAt(1, MOST));
        Due.allOf("27: no such pipe", Due.INDEX, () -> x.toShutAt(-1, 0), () -> x.toShutAt(4, -1),
            () -> x.toShutAt(MOST, 0));
        x.valve(1, false, false);
        x.valve(1, true, false);
        Due.allOf("27: no index of an empty set", Due.ARGUMENT, () -> x.toShutAt(1, 0), () -> x.toShutAt(1, -1));
    }

    private static void shut() {
        Valvekeeper x = row();
        Due.is("28: all three", 3, () -> x.shut(1));
        Due.is("28: one valve", 1, x::turned);
        Due.is("28: shut off", true, () -> x.isShutOff(1));
        Due.is("28: the valve is shut", true, () -> x.valve(0, false, false));
        Due.is("28: one turn", 1, x::turned);
        Due.is("28: none any more", 0, () -> x.shut(1));
        Due.is("28: no turn", 1, x::turned);
        x.pass(1);
        Due.is("28: nothing flows there", 0, () -> x.flow(0));
        Due.allOf("28: no such pipe", Due.INDEX, () -> x.shut(-1), () -> x.shut(3), () -> x.shut(MOST));
    }

    private static void shutCountsThoseThatWereNot() {
        Valvekeeper x = row();
        x.valve(2, false, false);
        Due.is("29: beyond the shut valve", true, () -> x.isCutOff(3));
        Due.is("28: one was cut off already", 2, () -> x.shut(0));
        Due.is("28: two turns", 2, x::turned);
        Valvekeeper y = row();
        y.tank(0, 1, 0);
        y.pipe(3, 4, 1, '-', 0, 3);
        Due.is("28: one of three", 1, () -> y.shut(1));
        Due.is("29: this side", true, () -> y.isCutOff(1));
        Due.allOf("29: the other side", false, () -> y.isCutOff(2), () -> y.isCutOff(3));
        Due.is("28: two turns", 2, y::turned);
        Valvekeeper z = row();
        z.stick(0, false, true);
        z.stick(0, true, true);
        z.stick(1, false, true);
        z.stick(1, true, true);
        Due.is("28: the last of three", 1, () -> z.shut(2));
    }

    private static void isCutOff() {
        Valvekeeper x = row();
        Due.allOf("29: not by open valves", false, () -> x.isCutOff(0), () -> x.isCutOff(1), () -> x.isCutOff(3));
        x.valve(1, true, false);
        Due.is("29: this side", false, () -> x.isCutOff(1));
        Due.allOf("29: beyond it", true, () -> x.isCutOff(2), () -> x.isCutOff(3));
        x.valve(0, false, false);
        Due.is("29: a tank never", false, () -> x.isCutOff(0));
        Due.is("29: then this one too", true, () -> x.isCutOff(1));
        x.valve(1, true, true);
        Due.is("29: until the first one is open", true, () -> x.isCutOff(3));
        x.valve(0, false, true);
        Due.is("29: and it is", false, () -> x.isCutOff(3));
        x.junction(0, 0);
        Due.is("29: one without pipes", true, () -> x.isCutOff(4));
        Due.allOf("29: no such node", Due.INDEX, () -> x.isCutOff(-1), () -> x.isCutOff(5), () -> x.isCutOff(LEAST),
            () -> x.isCutOff(MOST));
    }

    private static void turned() {
        Valvekeeper x = row();
        x.tank(0, 1, 0);
        x.pipe(3, 4, 1, '-', 0, 3);
        x.valve(0, false, true);
        Due.is("30: open already", 0, x::turned);
        x.valve(0, false, false);
        x.valve(0, false, false);
        Due.is("30: shut once", 1, x::turned);
        x.valve(0, false, true);
        Due.is("30: and opened", 2, x::turned);
        x.shut(1);
        Due.is("30: two by a set", 4, x::turned);
        x.shut(1);
        x.stick(0, false, true);
        x.valve(0, false, true);
        Due.is("30: stuck", 4, x::turned);
        x.broke(0, true);
        x.pass(3);
        Due.is("30: no other call turns any", 4, x::turned);
    }

    /** 16 nodes and 24 pipes: a ring of 14 junctions with tanks at both sides and ways across it. */
    private static void greatestNet() {
        Valvekeeper x = new Valvekeeper();
        x.tank(100, 50, 9999);
        for (int i = 0; i < 14; i++) {
            x.junction(0, 5);
        }
        x.tank(100, 50, 9999);
        for (int i = 1; i <= 14; i++) {
            x.pipe(i, i % 14 + 1, 5, '-', 0, 3);
        }
        for (int i = 1; i <= 5; i++) {
            x.pipe(0, i, 5, '-', 0, 3);
            x.pipe(15, i + 7, 5, '-', 0, 3);
        }
        set("26: in the greatest net, of the ring", x, 5, 8, 11);
        set("26: in the greatest net, toward a tank", x, 23, 46, 47);
        for (int i = 0; i < 14; i++) {
            x.stick(i, false, true);
            x.stick(i, true, true);
        }
        set("26: all ways to both tanks", x, 0, 28, 30, 32, 34, 36, 38, 40, 42, 44, 46);
        Due.is("28: all fourteen", 14, () -> x.shut(9));
        Due.is("30: ten valves", 10, x::turned);
        Due.is("39: holds", true, x::isTrue);
    }

    private static void isTrue() {
        Due.is("39: without pipes", true, () -> new Valvekeeper().isTrue());
        Valvekeeper x = row();
        Due.is("39: in a row", true, x::isTrue);
        Due.is("39: it shuts nothing", 0, x::turned);
        Due.is("39: it shuts nothing", false, () -> x.isShutOff(0));
        x.shut(2);
        Due.is("39: shut off already", true, x::isTrue);
        x.stick(0, false, true);
        x.broke(1, true);
        Due.is("39: with a stuck valve and a break", true, x::isTrue);
    }
}
