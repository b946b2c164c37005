import java.util.ArrayList;
import java.util.List;

/**
 * A call that throws changes nothing, and a call that only asks changes nothing: a city behind such a call gives
 * all the answers that its twin gives without it.
 */
public final class UnchangedTest {
    private interface On {
        Object go(Valvekeeper x);
    }

    private static final int MOST = Integer.MAX_VALUE;

    public static void main(String[] args) {
        refusedInTheNet();
        refusedRules();
        refusedNodes();
        refusedHours();
        refusedBreaks();
        refusedMeters();
        refusedForWantOfRoom();
        refusedForHours();
        asked();
        Due.end();
    }

    /** Nodes 0 and 5 are tanks; pipe 3 has a pump with a rule, pipe 4 lets water go one way alone. */
    private static Valvekeeper city() {
        Valvekeeper x = new Valvekeeper();
        x.tank(90, 9, 700);
        for (int i = 1; i <= 4; i++) {
            x.junction(10 * i, 3 * i);
        }
        x.tank(20, 30, 900);
        x.pipe(0, 1, 5, '-', 0, 3);
        x.pipe(1, 2, 4, '-', 0, 1);
        x.pipe(2, 3, 3, '-', 0, 2);
        x.pipe(5, 3, 6, 'p', 60, 3);
        x.pipe(3, 4, 7, '>', 0, 3);
        x.pipe(4, 1, 2, '-', 0, 0);
        x.rule(3, 0, 70, 80);
        x.setLeak(2, 3);
        x.setPace(3, 80);
        x.setDistrict(4, 1);
        x.setPattern(1, 150);
        x.setDrought(90);
        x.setTariff(2, 8);
        x.foul(0, 300);
        x.stick(1, false, true);
        x.pass(2);
        x.bill(2, true);
        return x;
    }

    /** Without valves at the tank, so that pipe 0 has no set. */
    private static Valvekeeper bare() {
        Valvekeeper x = new Valvekeeper();
        x.tank(50, 9, 90);
        x.junction(0, 3);
        x.junction(10, 3);
        x.pipe(0, 1, 5, '-', 0, 0);
        x.pipe(1, 2, 5, '-', 0, 1);
        x.pass(1);
        return x;
    }

    private static Valvekeeper full() {
        Valvekeeper x = city();
        for (int i = 6; i < 16; i++) {
            x.junction(i, i);
        }
        for (int i = 6; i < 24; i++) {
            x.pipe(i % 5, 5 + i % 7, 1 + i % 3, '-', 0, i % 4);
        }
        return x;
    }

    private static Valvekeeper old() {
        Valvekeeper x = bare();
        for (int i = 0; i < 83; i++) {
            x.pass(24);
        }
        return x;
    }

    private static String answer(Valvekeeper x, On call) {
        try {
            return String.valueOf(call.go(x));
        } catch (RuntimeException e) {
            return e.getClass().getName();
        }
    }

    private static void add(List<String> all, Valvekeeper x, On call) {
        all.add(answer(x, call));
    }

    /** What a city answers, what was set in it, and what two hours more bring: some 250 calls, as 512 count. */
    private static List<String> answers(Valvekeeper x, int nodes, int pipes) {
        List<String> all = new ArrayList<>();
        for (int round = 0; round < 2; round++) {
            add(all, x, Valvekeeper::sweeps);
            add(all, x, Valvekeeper::cost);
            add(all, x, Valvekeeper::turned);
            add(all, x, Valvekeeper::used);
            add(all, x, Valvekeeper::dryShare);
            add(all, x, Valvekeeper::meanPressure);
            for (int i = 0; i < nodes; i++) {
                int node = i;
                add(all, x, y -> y.head(node) + " " + y.excess(node) + " " + y.wasDry(node));
                add(all, x, y -> y.quality(node, 'a') + " " + y.quality(node, 'c') + " " + y.quality(node, 'f'));
                add(all, x, y -> y.isCutOff(node));
                add(all, x, y -> y.water(node));
                add(all, x, y -> y.bill(node, false) + " " + y.reading(node));
            }
            for (int i = 0; i < pipes; i++) {
                int pipe = i;
                add(all, x, y -> y.flow(pipe));
                add(all, x, y -> y.toShut(pipe));
            }
            for (int i = 0; i < 4; i++) {
                int district = i;
                add(all, x, y -> y.missed(district));
            }
            add(all, x, y -> y.pass(1));
        }
        addSettings(all, x, nodes, pipes);
        return all;
    }

    private static void addSettings(List<String> all, Valvekeeper x, int nodes, int pipes) {
        for (int i = 0; i < nodes; i++) {
            int node = i;
            add(all, x, y -> y.setLeak(node, 0) + " " + y.setPace(node, 1) + " " + y.setDistrict(node, 2));
            add(all, x, y -> y.foul(node, 5));
        }
        for (int i = 0; i < pipes; i++) {
            int pipe = i;
            add(all, x, y -> y.broke(pipe, true));
            add(all, x, y -> y.valve(pipe, false, false) + " " + y.turned());
            add(all, x, y -> y.valve(pipe, true, false) + " " + y.turned());
            add(all, x, y -> y.pump(pipe, true) + " " + y.rule(pipe, -1, 0, 0));
        }
        for (int i = 0; i < 3; i++) {
            int hour = i;
            add(all, x, y -> y.setPattern(hour, 7) + " " + y.setTariff(hour, 7));
        }
        add(all, x, y -> y.setPattern(23, 7) + " " + y.setTariff(23, 7) + " " + y.setDrought(1));
        add(all, x, y -> y.junction(0, 0));
        add(all, x, y -> y.pipe(0, 1, 1, '-', 0, 0));
    }

    private static void same(String what, Valvekeeper behind, Valvekeeper twin, int nodes, int pipes) {
        List<String> due = answers(twin, nodes, pipes);
        Due.is("nothing changed by " + what, due, () -> answers(behind, nodes, pipes));
    }

    private static void refused(String what, Class<?> due, On... calls) {
        for (int i = 0; i < calls.length; i++) {
            Valvekeeper x = city();
            On call = calls[i];
            Due.is(what + ", number " + i, due.getName(), () -> answer(x, call));
            same(what + ", number " + i, x, city(), 6, 6);
        }
    }

    private static void refusedInTheNet() {
        refused("junction", Due.ARGUMENT, x -> x.junction(-1, 0), x -> x.junction(201, 5), x -> x.junction(5, 100),
            x -> x.junction(5, -1));
        refused("tank", Due.ARGUMENT, x -> x.tank(-1, 1, 0), x -> x.tank(201, 1, 0), x -> x.tank(0, 0, 0),
            x -> x.tank(0, 51, 0), x -> x.tank(0, 1, 10000), x -> x.tank(0, 1, -1));
        refused("pipe", Due.INDEX, x -> x.pipe(-1, 1, 1, '-', 0, 3), x -> x.pipe(1, 6, 1, '-', 0, 3),
            x -> x.pipe(6, 6, 1, '-', 0, 3), x -> x.pipe(6, 1, 1, 'x', 0, 3), x -> x.pipe(1, 6, 10, '-', 0, 3));
        refused("pipe", Due.ARGUMENT, x -> x.pipe(1, 1, 1, '-', 0, 3), x -> x.pipe(1, 2, 1, 'q', 1, 3),
            x -> x.pipe(1, 2, 0, '-', 0, 3), x -> x.pipe(1, 2, 10, '-', 0, 3), x -> x.pipe(1, 2, 1, '-', 0, 4),
            x -> x.pipe(1, 2, 1, '>', 0, -1), x -> x.pipe(1, 2, 1, 'p', 0, 3), x -> x.pipe(1, 2, 1, 'p', 100, 3));
        refused("valve", Due.INDEX, x -> x.valve(-1, false, false), x -> x.valve(6, false, false));
        refused("valve", Due.NO_ELEMENT, x -> x.valve(5, false, false), x -> x.valve(1, true, false),
            x -> x.valve(2, false, false));
        refused("stick", Due.INDEX, x -> x.stick(-1, false, true), x -> x.stick(6, false, true));
        refused("stick", Due.NO_ELEMENT, x -> x.stick(5, false, true), x -> x.stick(1, true, true),
            x -> x.stick(2, false, true));
    }

    private static void refusedRules() {
        refused("pump", Due.INDEX, x -> x.pump(-1, true), x -> x.pump(6, true));
        refused("pump", Due.UNSUPPORTED, x -> x.pump(0, true), x -> x.pump(4, true));
        refused("rule", Due.INDEX, x -> x.rule(-1, 0, 1, 2), x -> x.rule(6, -1, 0, 0), x -> x.rule(6, 1, -1, -2));
        refused("rule", Due.UNSUPPORTED, x -> x.rule(0, 0, 1, 2), x -> x.rule(4, -1, 0, 0), x -> x.rule(4, 1, -1, 0));
        refused("rule", Due.ARGUMENT, x -> x.rule(3, 1, 0, 0), x -> x.rule(3, 6, 0, 0), x -> x.rule(3, -2, 0, 0),
            x -> x.rule(3, 5, -1, 0), x -> x.rule(3, 5, 1000, 1001), x -> x.rule(3, 5, 10, 9));
        refused("broke", Due.INDEX, x -> x.broke(-1, true), x -> x.broke(6, true));
        refused("setPattern", Due.ARGUMENT, x -> x.setPattern(-1, 3), x -> x.setPattern(24, 3),
            x -> x.setPattern(2, -1), x -> x.setPattern(2, 301));
        refused("setDrought", Due.ARGUMENT, x -> x.setDrought(-1), x -> x.setDrought(101));
        refused("setTariff", Due.ARGUMENT, x -> x.setTariff(-1, 3), x -> x.setTariff(24, 3), x -> x.setTariff(2, -1),
            x -> x.setTariff(2, 100));
    }

    private static void refusedNodes() {
        refused("setLeak", Due.INDEX, x -> x.setLeak(-1, 3), x -> x.setLeak(6, 51));
        refused("setLeak", Due.UNSUPPORTED, x -> x.setLeak(0, 3), x -> x.setLeak(5, 51));
        refused("setLeak", Due.ARGUMENT, x -> x.setLeak(2, -1), x -> x.setLeak(2, 51));
        refused("foul", Due.INDEX, x -> x.foul(-1, 3), x -> x.foul(6, 1001));
        refused("foul", Due.UNSUPPORTED, x -> x.foul(1, 3), x -> x.foul(4, 1001));
        refused("foul", Due.ARGUMENT, x -> x.foul(0, -1), x -> x.foul(0, 1001));
        refused("setPace", Due.INDEX, x -> x.setPace(-1, 3), x -> x.setPace(6, 201));
        refused("setPace", Due.UNSUPPORTED, x -> x.setPace(0, 3), x -> x.setPace(5, 201));
        refused("setPace", Due.ARGUMENT, x -> x.setPace(3, -1), x -> x.setPace(3, 201));
        refused("setDistrict", Due.INDEX, x -> x.setDistrict(-1, 3), x -> x.setDistrict(6, 4));
        refused("setDistrict", Due.UNSUPPORTED, x -> x.setDistrict(0, 3), x -> x.setDistrict(5, 4));
        refused("setDistrict", Due.ARGUMENT, x -> x.setDistrict(4, -1), x -> x.setDistrict(4, 4));
    }

    private static void refusedHours() {
        refused("pass", Due.ARGUMENT, x -> x.pass(0), x -> x.pass(25), x -> x.pass(-1), x -> x.pass(MOST));
        refused("head", Due.INDEX, x -> x.head(-1), x -> x.head(6));
        refused("flow", Due.INDEX, x -> x.flow(-1), x -> x.flow(6));
        refused("wasDry", Due.INDEX, x -> x.wasDry(-1), x -> x.wasDry(6));
        refused("water", Due.INDEX, x -> x.water(-1), x -> x.water(6));
        refused("water", Due.UNSUPPORTED, x -> x.water(1), x -> x.water(4));
        refused("excess", Due.INDEX, x -> x.excess(-1), x -> x.excess(6));
        refused("quality", Due.INDEX, x -> x.quality(-1, 'a'), x -> x.quality(6, 'x'));
        refused("quality", Due.ARGUMENT, x -> x.quality(0, 'x'), x -> x.quality(1, 'A'));
        refused("fire", Due.INDEX, x -> x.fire(-1), x -> x.fire(6));
        refused("fire", Due.UNSUPPORTED, x -> x.fire(0), x -> x.fire(5));
    }

    private static void refusedBreaks() {
        refused("isShutOff", Due.INDEX, x -> x.isShutOff(-1), x -> x.isShutOff(6));
        refused("toShut", Due.INDEX, x -> x.toShut(-1), x -> x.toShut(6));
        refused("toShutAt", Due.INDEX, x -> x.toShutAt(-1, 0), x -> x.toShutAt(6, -1));
        refused("toShutAt", Due.ARGUMENT, x -> x.toShutAt(1, -1), x -> x.toShutAt(1, 9));
        refused("shut", Due.INDEX, x -> x.shut(-1), x -> x.shut(6));
        refused("isCutOff", Due.INDEX, x -> x.isCutOff(-1), x -> x.isCutOff(6));
        On[] calls = {x -> x.toShut(0), x -> x.toShutAt(0, 0), x -> x.toShutAt(0, -1), x -> x.shut(0)};
        for (int i = 0; i < calls.length; i++) {
            Valvekeeper x = bare();
            On call = calls[i];
            Due.is("no set, number " + i, Due.NO_ELEMENT.getName(), () -> answer(x, call));
            same("no set, number " + i, x, bare(), 3, 2);
        }
    }

    private static void refusedMeters() {
        refused("reading", Due.INDEX, x -> x.reading(-1), x -> x.reading(6));
        refused("reading", Due.UNSUPPORTED, x -> x.reading(0), x -> x.reading(5));
        refused("bill", Due.INDEX, x -> x.bill(-1, true), x -> x.bill(6, false));
        refused("bill", Due.UNSUPPORTED, x -> x.bill(0, true), x -> x.bill(5, false));
        refused("missed", Due.ARGUMENT, x -> x.missed(-1), x -> x.missed(4));
        Valvekeeper x = new Valvekeeper();
        Due.allOf("no junctions", Due.ARITHMETIC, x::dryShare, x::meanPressure);
        same("no junctions", x, new Valvekeeper(), 0, 0);
    }

    private static void refusedForWantOfRoom() {
        On[] calls = {x -> x.junction(0, 0), x -> x.tank(0, 1, 0), x -> x.pipe(0, 1, 1, '-', 0, 3)};
        for (int i = 0; i < calls.length; i++) {
            Valvekeeper x = full();
            On call = calls[i];
            Due.is("no room, number " + i, Due.STATE.getName(), () -> answer(x, call));
            same("no room, number " + i, x, full(), 6, 7);
        }
    }

    private static void refusedForHours() {
        Valvekeeper x = old();
        Due.is("no hours", Due.STATE.getName(), () -> answer(x, y -> y.pass(24)));
        same("no hours", x, old(), 3, 2);
    }

    private static void asked() {
        On[] calls = {x -> x.head(2), x -> x.flow(1), Valvekeeper::sweeps, x -> x.wasDry(3), x -> x.water(0),
            x -> x.excess(2), x -> x.quality(2, 'f'), Valvekeeper::cost, x -> x.fire(1), x -> x.fire(2),
            x -> x.fire(3), x -> x.fire(4), x -> x.isShutOff(2), x -> x.toShut(2), x -> x.toShutAt(2, 0),
            x -> x.isCutOff(3), Valvekeeper::turned, x -> x.reading(3), x -> x.missed(1), Valvekeeper::used,
            Valvekeeper::dryShare, Valvekeeper::meanPressure, Valvekeeper::isTrue,
            x -> new Valvekeeper().junction(0, 0), x -> x.valve(0, false, true), x -> x.valve(1, false, false),
            x -> x.stick(0, false, false), x -> x.rule(3, 0, 70, 80), x -> x.broke(0, false),
            x -> x.setLeak(2, 3), x -> x.setPattern(1, 150), x -> x.setDrought(90), x -> x.setTariff(2, 8)};
        for (int i = 0; i < calls.length; i++) {
            Valvekeeper x = city();
            On call = calls[i];
            Due.is("asked, number " + i, false, () -> answer(x, call).contains("Exception"));
            same("what was asked, number " + i, x, city(), 6, 6);
        }
    }
}
