/** Promises 1 to 13: the net and what is set in it. */
public final class NetTest {
    private static final int LEAST = Integer.MIN_VALUE;
    private static final int MOST = Integer.MAX_VALUE;

    public static void main(String[] args) {
        newObject();
        junction();
        tank();
        sixteenNodes();
        pipe();
        pipeOrder();
        pipeLetsWaterGo();
        twentyFourPipes();
        valve();
        stuckValve();
        stick();
        pump();
        ruleAnswers();
        ruleMarks();
        ruleTakenAway();
        broke();
        setLeak();
        setPattern();
        patternRoundsEachTime();
        setDrought();
        setTariff();
        Due.end();
    }

    private static void newObject() {
        Valvekeeper x = new Valvekeeper();
        Due.is("1: sweeps", 0, x::sweeps);
        Due.is("1: cost", 0L, x::cost);
        Due.is("1: used", 0L, x::used);
        Due.is("1: turned", 0, x::turned);
        Due.is("1: isTrue", true, x::isTrue);
        Due.is("1: no node", Due.INDEX, () -> x.head(0));
        Due.is("1: no pipe", Due.INDEX, () -> x.flow(0));
        Due.is("1: at the hour 0", 1, () -> x.pass(1));
        Due.is("1: one sweep finds that nothing changes", 1, x::sweeps);
        Due.is("1: nothing missed", 0, () -> x.missed(0));
        Due.is("1: first node of another object", 0, () -> new Valvekeeper().junction(0, 0));
    }

    private static void junction() {
        Valvekeeper x = new Valvekeeper();
        Due.is("2: least", 0, () -> x.junction(0, 0));
        Due.is("2: greatest", 1, () -> x.junction(200, 99));
        Due.is("2: middle", 2, () -> x.junction(77, 5));
        Due.allOf("2: out of range", Due.ARGUMENT, () -> x.junction(-1, 0), () -> x.junction(201, 0),
            () -> x.junction(0, -1), () -> x.junction(0, 100), () -> x.junction(LEAST, 0),
            () -> x.junction(MOST, 0), () -> x.junction(0, LEAST), () -> x.junction(0, MOST));
        Due.is("2: head is the height", 200, () -> x.head(1));
        Due.is("2: head is the height", 77, () -> x.head(2));
        Due.is("2: no refused one was added", 3, () -> x.junction(0, 0));
        Due.is("2: it is no tank", Due.UNSUPPORTED, () -> x.water(0));
        Due.allOf("2: all is 0 at first", 0, () -> x.quality(2, 'a'), () -> x.quality(2, 'c'),
            () -> x.quality(2, 'f'), () -> x.reading(2), () -> x.excess(2));
        Due.is("2: alone, it is cut off", true, () -> x.isCutOff(2));
        x.pass(1);
        Due.is("2: without pipes the head is the height", 77, () -> x.head(2));
        Due.is("2: so it gets its demand", 5, () -> x.reading(2));
        Due.is("2: added behind an hour", 4, () -> x.junction(10, 1));
        Due.is("2: its head", 10, () -> x.head(4));
        Due.is("2: it was not dry", false, () -> x.wasDry(4));
    }

    private static void tank() {
        Valvekeeper x = new Valvekeeper();
        Due.is("3: least", 0, () -> x.tank(0, 1, 0));
        Due.is("3: greatest", 1, () -> x.tank(200, 50, 9999));
        Due.is("3: with the numbers of junctions", 2, () -> x.junction(0, 0));
        Due.is("3: middle", 3, () -> x.tank(10, 3, 11));
        Due.allOf("3: out of range", Due.ARGUMENT, () -> x.tank(-1, 1, 0), () -> x.tank(201, 1, 0),
            () -> x.tank(0, 0, 0), () -> x.tank(0, 51, 0), () -> x.tank(0, 1, -1), () -> x.tank(0, 1, 10000),
            () -> x.tank(LEAST, 1, 0), () -> x.tank(0, LEAST, 0), () -> x.tank(0, 1, LEAST),
            () -> x.tank(MOST, 1, 0), () -> x.tank(0, MOST, 0), () -> x.tank(0, 1, MOST));
        Due.is("3: level rounded down", 13, () -> x.head(3));
        Due.is("3: level rounded down", 399, () -> x.head(1));
        Due.is("3: water", 11, () -> x.water(3));
        Due.is("3: chlorine", 1000, () -> x.quality(3, 'c'));
        Due.allOf("3: age and foul", 0, () -> x.quality(3, 'a'), () -> x.quality(3, 'f'));
        Due.is("3: no refused one was added", 4, () -> x.tank(0, 1, 0));
    }

    private static void sixteenNodes() {
        Valvekeeper x = new Valvekeeper();
        for (int i = 0; i < 16; i++) {
            int node = i;
            Due.is("2: sixteen nodes", i, () -> node % 3 == 0 ? x.tank(0, 1, 0) : x.junction(0, 0));
        }
        Due.is("2: a seventeenth node", Due.STATE, () -> x.junction(0, 0));
        Due.is("3: a seventeenth node", Due.STATE, () -> x.tank(0, 1, 0));
        Due.is("2: the range is looked at first", Due.ARGUMENT, () -> x.junction(201, 0));
        Due.is("3: the range is looked at first", Due.ARGUMENT, () -> x.tank(0, 51, 0));
        Due.is("2: the last one", 0, () -> x.head(14));
        Due.is("2: none behind it", Due.INDEX, () -> x.head(16));
    }

    private static void pipe() {
        Valvekeeper x = new Valvekeeper();
        x.tank(100, 10, 0);
        x.junction(0, 0);
        Due.is("4: least", 0, () -> x.pipe(0, 1, 1, '-', 0, 0));
        Due.is("4: greatest", 1, () -> x.pipe(1, 0, 9, 'p', 99, 3));
        Due.is("4: least lift", 2, () -> x.pipe(1, 0, 9, 'p', 1, 3));
        Due.is("4: the lift is of no meaning", 3, () -> x.pipe(0, 1, 1, '>', MOST, 1));
        Due.is("4: the lift is of no meaning", 4, () -> x.pipe(0, 1, 1, '-', LEAST, 2));
        Due.allOf("4: no such node", Due.INDEX, () -> x.pipe(-1, 0, 1, '-', 0, 0), () -> x.pipe(2, 0, 1, '-', 0, 0),
            () -> x.pipe(0, -1, 1, '-', 0, 0), () -> x.pipe(0, 2, 1, '-', 0, 0),
            () -> x.pipe(LEAST, MOST, 1, '-', 0, 0), () -> x.pipe(2, 2, 0, 'x', 0, 9));
        Due.allOf("4: refused", Due.ARGUMENT, () -> x.pipe(0, 0, 1, '-', 0, 0), () -> x.pipe(1, 1, 1, '-', 0, 0),
            () -> x.pipe(0, 1, 1, 'x', 0, 0), () -> x.pipe(0, 1, 1, 'P', 1, 0), () -> x.pipe(0, 1, 1, '<', 1, 0),
            () -> x.pipe(0, 1, 0, '-', 0, 0), () -> x.pipe(0, 1, 10, '-', 0, 0), () -> x.pipe(0, 1, LEAST, '-', 0, 0),
            () -> x.pipe(0, 1, MOST, '-', 0, 0), () -> x.pipe(0, 1, 1, 'p', 0, 0), () -> x.pipe(0, 1, 1, 'p', 100, 0),
            () -> x.pipe(0, 1, 1, 'p', LEAST, 0), () -> x.pipe(0, 1, 1, 'p', MOST, 0),
            () -> x.pipe(0, 1, 1, '-', 0, -1), () -> x.pipe(0, 1, 1, '-', 0, 4),
            () -> x.pipe(0, 1, 1, (char) 0, 0, 0), () -> x.pipe(0, 1, 1, '-', 0, LEAST));
        Due.is("4: no refused one was added", 5, () -> x.pipe(0, 1, 1, '-', 0, 0));
        Due.allOf("4: no valve there", Due.NO_ELEMENT, () -> x.valve(0, false, true), () -> x.valve(0, true, true),
            () -> x.valve(3, true, true), () -> x.valve(4, false, true));
        Due.allOf("4: an open valve there", true, () -> x.valve(1, false, true), () -> x.valve(1, true, true),
            () -> x.valve(3, false, true), () -> x.valve(4, true, true));
        Due.allOf("4: a pump is off at first", false, () -> x.pump(1, false), () -> x.pump(2, false));
        Due.allOf("4: no pump", Due.UNSUPPORTED, () -> x.pump(0, false), () -> x.pump(3, false));
        Due.is("4: nothing flowed yet", 0, () -> x.flow(0));
    }

    private static void pipeOrder() {
        Valvekeeper x = new Valvekeeper();
        x.tank(0, 1, 0);
        for (int i = 0; i < 24; i++) {
            if (i == 0) {
                x.junction(0, 0);
            }
            x.pipe(0, 1, 1, '-', 0, 0);
        }
        Due.is("4: the node ahead of all", Due.INDEX, () -> x.pipe(0, 2, 0, 'x', 0, 9));
        Due.is("4: the range ahead of the room", Due.ARGUMENT, () -> x.pipe(0, 1, 0, '-', 0, 0));
        Due.is("4: the same node ahead of the room", Due.ARGUMENT, () -> x.pipe(1, 1, 1, '-', 0, 0));
        Due.is("4: the kind ahead of the room", Due.ARGUMENT, () -> x.pipe(0, 1, 1, '?', 0, 0));
        Due.is("4: the room", Due.STATE, () -> x.pipe(0, 1, 1, '-', 0, 0));
    }

    /** A tank 100 high over a junction at 0: each kind of pipe, both ways round. */
    private static void pipeLetsWaterGo() {
        // Without a demand a one-way pipe pulls in each second sweep alone, and not in the sixtieth one.
        kind("both ways down", 0, 1, '-', 0, 100, 0, 5, 40);
        kind("both ways up", 1, 0, '-', 0, 100, 0, 5, -40);
        kind("one way down", 0, 1, '>', 50, 0, 80, 5, 40);
        kind("one way up", 1, 0, '>', 50, 0, 0, 5, 0);
        kind("pump down", 0, 1, 'p', 20, 0, 96, 5, 40);
        kind("pump up, too weak", 1, 0, 'p', 20, 0, 0, 5, 0);
    }

    private static void kind(String what, int first, int second, char kind, int lift, int free, int idle, int demand,
            int flow) {
        Valvekeeper x = new Valvekeeper();
        x.tank(100, 50, 0);
        x.junction(0, 0);
        x.pipe(first, second, 8, kind, lift, 0);
        if (kind == 'p') {
            x.pump(0, true);
        }
        x.pass(1);
        Due.is("4: head, " + what, free, () -> x.head(1));
        Due.is("4: flow, " + what, idle, () -> x.flow(0));
        x.junction(0, demand * 8);
        x.pipe(first == 0 ? 0 : 2, first == 0 ? 2 : 0, 8, kind, lift, 0);
        if (kind == 'p') {
            x.pump(1, true);
        }
        x.pass(1);
        Due.is("4: flow by demand, " + what, flow, () -> x.flow(1));
    }

    private static void twentyFourPipes() {
        Valvekeeper x = new Valvekeeper();
        x.tank(100, 50, 0);
        x.junction(0, 24);
        for (int i = 0; i < 24; i++) {
            int pipe = i;
            Due.is("4: twenty-four pipes", i, () -> x.pipe(pipe % 2, 1 - pipe % 2, 1, '-', 0, 3));
        }
        Due.is("4: a twenty-fifth pipe", Due.STATE, () -> x.pipe(0, 1, 1, '-', 0, 0));
        x.pass(1);
        Due.is("4: all of them pull", 90, () -> x.head(1));
        Due.is("4: flow of the first one", 1, () -> x.flow(0));
        Due.is("4: flow of the last one", -1, () -> x.flow(23));
        Due.is("4: none behind it", Due.INDEX, () -> x.flow(24));
    }

    private static Valvekeeper line(int valves) {
        Valvekeeper x = new Valvekeeper();
        x.tank(100, 50, 0);
        x.junction(0, 8);
        x.pipe(0, 1, 4, '-', 0, valves);
        return x;
    }

    private static void valve() {
        Valvekeeper x = line(3);
        Due.is("5: shut", true, () -> x.valve(0, true, false));
        Due.is("5: shut again", true, () -> x.valve(0, true, false));
        Due.is("5: one turn", 1, x::turned);
        x.pass(1);
        Due.is("5: nothing flows by a shut valve", 0, () -> x.flow(0));
        Due.is("5: and it does not pull", 0, () -> x.head(1));
        Due.is("5: shut the first one", true, () -> x.valve(0, false, false));
        Due.is("5: open the second one", true, () -> x.valve(0, true, true));
        x.pass(1);
        Due.is("5: the first one is still shut", 0, () -> x.flow(0));
        Due.is("5: open the first one", true, () -> x.valve(0, false, true));
        x.pass(1);
        Due.is("5: it flows again", 8, () -> x.flow(0));
        Due.is("5: four turns", 4, x::turned);
        Valvekeeper first = line(1);
        Valvekeeper second = line(2);
        Due.is("5: valve at the first end", true, () -> first.valve(0, false, true));
        Due.is("5: none at the second end", Due.NO_ELEMENT, () -> first.valve(0, true, true));
        Due.is("5: none at the first end", Due.NO_ELEMENT, () -> second.valve(0, false, false));
        Due.is("5: valve at the second end", true, () -> second.valve(0, true, false));
        Due.allOf("5: no such pipe", Due.INDEX, () -> x.valve(-1, false, true), () -> x.valve(1, true, true),
            () -> x.valve(LEAST, true, true), () -> x.valve(MOST, true, true), () -> x.valve(1 << 30, false, true));
        Due.is("5: a wrong one turns nothing", 0, first::turned);
    }

    private static void stuckValve() {
        Valvekeeper x = line(3);
        x.stick(0, false, true);
        Due.is("5: stuck open", false, () -> x.valve(0, false, false));
        Due.is("5: stuck open is open", true, () -> x.valve(0, false, true));
        Due.is("5: no turn of it", 0, x::turned);
        Due.is("5: the other one is free", true, () -> x.valve(0, true, false));
        x.stick(0, true, true);
        Due.is("5: stuck shut", false, () -> x.valve(0, true, true));
        Due.is("5: stuck shut is shut", true, () -> x.valve(0, true, false));
        x.pass(1);
        Due.is("5: it is shut indeed", 0, () -> x.flow(0));
        x.stick(0, true, false);
        Due.is("5: free again", true, () -> x.valve(0, true, true));
        x.pass(1);
        Due.is("5: it is open indeed", 8, () -> x.flow(0));
        Due.is("5: two turns", 2, x::turned);
    }

    private static void stick() {
        Valvekeeper x = line(3);
        Due.is("6: free at first", false, () -> x.stick(0, true, false));
        Due.is("6: was free", false, () -> x.stick(0, true, true));
        Due.is("6: was stuck", true, () -> x.stick(0, true, true));
        Due.is("6: the other one was free", false, () -> x.stick(0, false, true));
        Due.is("6: was stuck", true, () -> x.stick(0, true, false));
        Due.is("6: is free now", false, () -> x.stick(0, true, false));
        Due.is("6: the other one is stuck still", true, () -> x.stick(0, false, false));
        Due.is("6: it turns no valve", 0, x::turned);
        Due.allOf("6: no such pipe", Due.INDEX, () -> x.stick(-1, false, true), () -> x.stick(1, false, true),
            () -> x.stick(MOST, true, true), () -> x.stick(1 << 30, false, true));
        Due.is("6: none at the second end", Due.NO_ELEMENT, () -> line(1).stick(0, true, true));
        Due.is("6: none at the first end", Due.NO_ELEMENT, () -> line(2).stick(0, false, true));
        Due.is("6: none at all", Due.NO_ELEMENT, () -> line(0).stick(0, false, true));
    }

    private static void pump() {
        Valvekeeper x = line(0);
        x.tank(0, 50, 0);
        x.pipe(2, 1, 2, 'p', 99, 0);
        Due.is("7: off at first", false, () -> x.pump(1, false));
        x.pass(1);
        Due.is("7: nothing flows while it is off", 0, () -> x.flow(1));
        Due.is("7: nor does it pull", 80, () -> x.head(1));
        Due.is("7: was off", false, () -> x.pump(1, true));
        Due.is("7: was on", true, () -> x.pump(1, true));
        x.pass(1);
        // (4 * 100 + 2 * 99 - 80) / 6 = 86: both pipes pull.
        Due.is("7: it pulls with its lift", 86, () -> x.head(1));
        Due.is("7: it flows", 2, () -> x.flow(1));
        Due.is("7: was on", true, () -> x.pump(1, false));
        x.pass(1);
        Due.is("7: nothing flows any more", 0, () -> x.flow(1));
        Due.allOf("7: no such pipe", Due.INDEX, () -> x.pump(-1, true), () -> x.pump(2, true), () -> x.pump(MOST, true));
        Due.is("7: no pump", Due.UNSUPPORTED, () -> x.pump(0, true));
        x.pipe(0, 1, 1, '>', 9, 0);
        Due.is("7: no pump", Due.UNSUPPORTED, () -> x.pump(2, false));
    }

    private static void ruleAnswers() {
        Valvekeeper x = line(0);
        x.pipe(1, 0, 1, 'p', 1, 0);
        Due.is("8: no rule at first", false, () -> x.rule(1, -1, 0, 0));
        Due.is("8: none was taken away", false, () -> x.rule(1, 0, 0, 0));
        Due.is("8: had one", true, () -> x.rule(1, 0, 999, 999));
        Due.is("8: the upper mark may be great", true, () -> x.rule(1, 0, 999, MOST));
        Due.allOf("8: no such pipe", Due.INDEX, () -> x.rule(-1, 0, 0, 0), () -> x.rule(2, 0, 0, 0),
            () -> x.rule(2, 9, -1, -2));
        Due.allOf("8: no pump", Due.UNSUPPORTED, () -> x.rule(0, 0, 0, 0), () -> x.rule(0, 9, -1, -2),
            () -> x.rule(0, -1, 0, 0));
        Due.allOf("8: refused", Due.ARGUMENT, () -> x.rule(1, 1, 0, 0), () -> x.rule(1, 2, 0, 0),
            () -> x.rule(1, -2, 0, 0), () -> x.rule(1, LEAST, 0, 0), () -> x.rule(1, MOST, 0, 0),
            () -> x.rule(1, 0, -1, 0), () -> x.rule(1, 0, 1000, 1000), () -> x.rule(1, 0, 5, 4),
            () -> x.rule(1, 0, 0, -1), () -> x.rule(1, 0, LEAST, 0), () -> x.rule(1, 0, 0, LEAST));
        Due.is("8: marks are of no meaning then", true, () -> x.rule(1, -1, -5, -9));
        Due.is("8: has none any more", false, () -> x.rule(1, -1, 1000, 0));
    }

    /** A pump by a tank whose level is 10 and stays so: on below the lower mark, off above the upper one. */
    private static void ruleMarks() {
        marks("at both marks", 10, 10, false, false);
        marks("at both marks, on", 10, 10, true, true);
        marks("below the lower mark", 11, 20, false, true);
        marks("below the lower mark, on", 11, 20, true, true);
        marks("at the lower mark", 10, 20, false, false);
        marks("between", 9, 11, true, true);
        marks("between, off", 9, 11, false, false);
        marks("at the upper mark", 0, 10, true, true);
        marks("above the upper mark", 0, 9, true, false);
        marks("above the upper mark, off", 0, 9, false, false);
    }

    private static void marks(String what, int low, int high, boolean before, boolean behind) {
        Valvekeeper x = new Valvekeeper();
        x.tank(50, 10, 109);
        x.junction(0, 0);
        x.junction(0, 0);
        x.pipe(1, 2, 1, 'p', 1, 0);
        x.pump(0, before);
        x.rule(0, 0, low, high);
        Due.is("8: a rule works in an hour alone, " + what, before, () -> x.pump(0, before));
        x.pass(1);
        Due.is("8: cost " + what, behind ? 6L : 0L, x::cost);
        Due.is("8: " + what, behind, () -> x.pump(0, before));
    }

    private static void ruleTakenAway() {
        Valvekeeper x = new Valvekeeper();
        x.tank(0, 1, 0);
        x.tank(0, 1, 50);
        x.junction(0, 0);
        x.junction(0, 0);
        x.pipe(2, 3, 1, 'p', 1, 0);
        x.rule(0, 0, 10, 20);
        x.rule(0, 1, 10, 20);
        x.pump(0, true);
        x.pass(1);
        Due.is("8: the later rule alone works", false, () -> x.pump(0, false));
        x.rule(0, 0, 10, 20);
        x.rule(0, -1, 0, 0);
        x.pass(1);
        Due.is("8: a rule taken away does not work", false, () -> x.pump(0, false));
    }

    private static void broke() {
        Valvekeeper x = line(0);
        Due.is("9: whole at first", false, () -> x.broke(0, false));
        Due.is("9: was whole", false, () -> x.broke(0, true));
        Due.is("9: was broken", true, () -> x.broke(0, true));
        x.pass(1);
        Due.is("9: nothing flows in it", 0, () -> x.flow(0));
        Due.is("9: it does not pull", 0, () -> x.head(1));
        Due.is("9: the part holds together all the same", false, () -> x.isCutOff(1));
        Due.is("9: was broken", true, () -> x.broke(0, false));
        x.pass(1);
        Due.is("9: it flows again", 8, () -> x.flow(0));
        Due.allOf("9: no such pipe", Due.INDEX, () -> x.broke(-1, true), () -> x.broke(1, true),
            () -> x.broke(MOST, false));
    }

    private static void setLeak() {
        Valvekeeper x = line(0);
        Due.is("10: 0 at first", 0, () -> x.setLeak(1, 50));
        Due.is("10: greatest", 50, () -> x.setLeak(1, 7));
        x.pass(1);
        // Pressure 80: 7 * 80 / 10 is leaked, and 8 are got.
        Due.is("10: leaked and got", 64L, x::used);
        Due.is("10: excess", -56, () -> x.excess(1));
        Due.is("10: the one before", 7, () -> x.setLeak(1, 0));
        Due.is("10: least", 0, () -> x.setLeak(1, 0));
        Due.allOf("10: no such node", Due.INDEX, () -> x.setLeak(-1, 0), () -> x.setLeak(2, 99),
            () -> x.setLeak(MOST, 0));
        Due.allOf("10: a tank", Due.UNSUPPORTED, () -> x.setLeak(0, 0), () -> x.setLeak(0, 51));
        Due.allOf("10: out of range", Due.ARGUMENT, () -> x.setLeak(1, -1), () -> x.setLeak(1, 51),
            () -> x.setLeak(1, LEAST), () -> x.setLeak(1, MOST));
        Due.is("10: a refused one is not set", 0, () -> x.setLeak(1, 0));
    }

    private static void setPattern() {
        Valvekeeper x = new Valvekeeper();
        x.junction(0, 10);
        for (int i = 0; i < 24; i++) {
            int hour = i;
            Due.is("11: 100 at first", 100, () -> x.setPattern(hour, 10 * hour));
        }
        Due.is("11: the one before", 230, () -> x.setPattern(23, 300));
        Due.is("11: greatest", 300, () -> x.setPattern(23, 300));
        Due.is("11: least", 0, () -> x.setPattern(0, 0));
        Due.allOf("11: out of range", Due.ARGUMENT, () -> x.setPattern(-1, 0), () -> x.setPattern(24, 0),
            () -> x.setPattern(0, -1), () -> x.setPattern(0, 301), () -> x.setPattern(LEAST, 0),
            () -> x.setPattern(MOST, 0), () -> x.setPattern(0, LEAST), () -> x.setPattern(0, MOST));
        long sum = 0;
        for (int hour = 0; hour < 24; hour++) {
            sum += hour == 23 ? 30 : hour;
            long due = sum;
            x.pass(1);
            Due.is("11: demand of hour " + hour, due, x::used);
        }
        x.pass(2);
        Due.is("11: the day begins again", sum + 1, x::used);
    }

    private static void patternRoundsEachTime() {
        Valvekeeper x = new Valvekeeper();
        x.junction(0, 3);
        x.setPattern(0, 50);
        x.setDrought(67);
        x.pass(1);
        // 3 * 50 / 100 = 1, and 1 * 67 / 100 = 0; in one it would be 1.005.
        Due.is("11: rounded down each time", 0L, x::used);
        x.setPattern(1, 299);
        x.setDrought(99);
        x.pass(1);
        // 3 * 299 / 100 = 8, and 8 * 99 / 100 = 7.
        Due.is("11: rounded down each time", 7L, x::used);
    }

    private static void setDrought() {
        Valvekeeper x = new Valvekeeper();
        x.junction(0, 99);
        Due.is("12: 100 at first", 100, () -> x.setDrought(50));
        x.pass(1);
        Due.is("12: half of 99", 49L, x::used);
        Due.is("12: the one before", 50, () -> x.setDrought(0));
        x.pass(1);
        Due.is("12: nothing", 49L, x::used);
        Due.is("12: least", 0, () -> x.setDrought(100));
        x.pass(1);
        Due.is("12: all", 148L, x::used);
        Due.allOf("12: out of range", Due.ARGUMENT, () -> x.setDrought(-1), () -> x.setDrought(101),
            () -> x.setDrought(LEAST), () -> x.setDrought(MOST));
        Due.is("12: greatest", 100, () -> x.setDrought(100));
    }

    private static void setTariff() {
        Valvekeeper x = new Valvekeeper();
        x.junction(0, 0);
        x.junction(0, 0);
        x.pipe(0, 1, 1, 'p', 1, 0);
        for (int i = 0; i < 24; i++) {
            int hour = i;
            Due.is("13: 1 at first", 1, () -> x.setTariff(hour, hour));
        }
        Due.is("13: the one before", 23, () -> x.setTariff(23, 99));
        Due.is("13: greatest", 99, () -> x.setTariff(23, 99));
        Due.is("13: least", 0, () -> x.setTariff(0, 0));
        Due.allOf("13: out of range", Due.ARGUMENT, () -> x.setTariff(-1, 0), () -> x.setTariff(24, 0),
            () -> x.setTariff(0, -1), () -> x.setTariff(0, 100), () -> x.setTariff(LEAST, 0),
            () -> x.setTariff(MOST, 0), () -> x.setTariff(0, LEAST), () -> x.setTariff(0, MOST));
        x.pump(0, true);
        long sum = 5;
        for (int hour = 0; hour < 24; hour++) {
            sum += hour == 23 ? 99 : hour;
            long due = sum;
            x.pass(1);
            Due.is("13: cost of hour " + hour, due, x::cost);
        }
        x.pass(2);
        Due.is("13: the day begins again", sum + 1, x::cost);
    }
}
