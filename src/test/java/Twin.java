import java.util.ArrayList;
import java.util.List;

/** Cities that are made again and again: behind a call that changes nothing, one answers as its twins do. */
enum Twin {
    EMPTY(0, 0),
    CITY(6, 6),
    BARE(3, 2),
    FULL(6, 7),
    OLD(3, 2);

    interface On {
        Object go(Valvekeeper x);
    }

    /** So many of its nodes and pipes are asked, as an object is used for 512 calls alone. */
    private final int nodes;
    private final int pipes;
    private List<String> answers;

    Twin(int nodes, int pipes) {
        this.nodes = nodes;
        this.pipes = pipes;
    }

    Valvekeeper make() {
        return switch (this) {
            case EMPTY -> new Valvekeeper();
            case CITY -> city();
            case BARE -> bare();
            case FULL -> full();
            case OLD -> old();
        };
    }

    /**
     * Nodes 0 and 5 are tanks; pipe 1 has a valve at its first end alone, pipe 2 at its second one, pipe 5 none;
     * pipe 3 has a pump with a rule, pipe 4 lets water go one way alone.
     */
    private static Valvekeeper city() {
        Valvekeeper x = new Valvekeeper();
        x.tank(90, 9, 700);
        for (int i = 1; i <= 4; i++) {
            x.junction(10 * i, 3 * i);
        }
        x.tank(20, 30, 900);
        x.pipe(0, 1, 5, '-', 0, 3);
        x.pipe(1, 2, 4, '-', 0, 1);
        x.pipe(2, 3, 3, '-', 0, 2);
        x.pipe(5, 3, 6, 'p', 60, 3);
        x.pipe(3, 4, 7, '>', 0, 3);
        x.pipe(4, 1, 2, '-', 0, 0);
        x.rule(3, 0, 70, 80);
        x.setLeak(2, 3);
        x.setPace(3, 80);
        x.setDistrict(4, 1);
        x.setPattern(1, 150);
        x.setDrought(90);
        x.setTariff(2, 8);
        x.foul(0, 300);
        x.stick(1, false, true);
        x.pass(2);
        x.bill(2, true);
        return x;
    }

    /** Tank 0, junctions 1 and 2 in a row, without a valve at the tank: no set shuts pipe 0 off. */
    private static Valvekeeper bare() {
        Valvekeeper x = new Valvekeeper();
        x.tank(50, 9, 90);
        x.junction(0, 3);
        x.junction(10, 3);
        x.pipe(0, 1, 5, '-', 0, 0);
        x.pipe(1, 2, 5, '-', 0, 1);
        x.pass(1);
        return x;
    }

    /** 16 nodes and 24 pipes. */
    private static Valvekeeper full() {
        Valvekeeper x = city();
        for (int i = 6; i < 16; i++) {
            x.junction(i, i);
        }
        for (int i = 6; i < 24; i++) {
            x.pipe(i % 5, 5 + i % 7, 1 + i % 3, '-', 0, i % 4);
        }
        return x;
    }

    /** 1993 hours have gone by. */
    private static Valvekeeper old() {
        Valvekeeper x = bare();
        for (int i = 0; i < 83; i++) {
            x.pass(24);
        }
        return x;
    }

    List<String> answers() {
        if (answers == null) {
            answers = answersOf(make());
        }
        return answers;
    }

    /** What a city answers, what two hours more bring, and then what was set in it. */
    List<String> answersOf(Valvekeeper x) {
        List<String> all = new ArrayList<>();
        for (int round = 0; round < 2; round++) {
            addSums(all, x);
            for (int i = 0; i < nodes; i++) {
                addNode(all, x, i);
            }
            for (int i = 0; i < pipes; i++) {
                int pipe = i;
                add(all, x, y -> y.flow(pipe));
                add(all, x, y -> y.toShut(pipe));
            }
            add(all, x, y -> y.pass(1));
        }
        addSettings(all, x);
        return all;
    }

    static String answer(Valvekeeper x, On call) {
        try {
            return String.valueOf(call.go(x));
        } catch (RuntimeException e) {
            return e.getClass().getName();
        }
    }

    private static void add(List<String> all, Valvekeeper x, On call) {
        all.add(answer(x, call));
    }

    private static void addSums(List<String> all, Valvekeeper x) {
        add(all, x, Valvekeeper::sweeps);
        add(all, x, Valvekeeper::cost);
        add(all, x, Valvekeeper::turned);
        add(all, x, Valvekeeper::used);
        add(all, x, Valvekeeper::dryShare);
        add(all, x, Valvekeeper::meanPressure);
        for (int i = 0; i < 4; i++) {
            int district = i;
            add(all, x, y -> y.missed(district));
        }
    }

    private static void addNode(List<String> all, Valvekeeper x, int node) {
        add(all, x, y -> y.head(node) + " " + y.excess(node) + " " + y.wasDry(node));
        add(all, x, y -> y.quality(node, 'a') + " " + y.quality(node, 'c') + " " + y.quality(node, 'f'));
        add(all, x, y -> y.isCutOff(node));
        add(all, x, y -> y.water(node));
        add(all, x, y -> y.bill(node, false) + " " + y.reading(node));
    }

    private void addSettings(List<String> all, Valvekeeper x) {
        for (int i = 0; i < nodes; i++) {
            int node = i;
            add(all, x, y -> y.setLeak(node, 0) + " " + y.setPace(node, 1) + " " + y.setDistrict(node, 2));
            add(all, x, y -> y.foul(node, 5));
        }
        for (int i = 0; i < pipes; i++) {
            int pipe = i;
            add(all, x, y -> y.broke(pipe, true));
            add(all, x, y -> y.stick(pipe, false, false) + " " + y.valve(pipe, false, false) + " " + y.turned());
            add(all, x, y -> y.stick(pipe, true, false) + " " + y.valve(pipe, true, false) + " " + y.turned());
            add(all, x, y -> y.pump(pipe, true) + " " + y.rule(pipe, -1, 0, 0));
        }
        for (int i = 0; i < 3; i++) {
            int hour = i;
            add(all, x, y -> y.setPattern(hour, 7) + " " + y.setTariff(hour, 7));
        }
        add(all, x, y -> y.setPattern(23, 7) + " " + y.setTariff(23, 7) + " " + y.setDrought(1));
        add(all, x, y -> y.junction(0, 0));
        add(all, x, y -> y.pipe(0, 1, 1, '-', 0, 0));
    }
}
