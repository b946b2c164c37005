import java.lang.reflect.InvocationTargetException;
import java.lang.reflect.Method;
import java.util.ArrayList;
import java.util.HashMap;
import java.util.List;
import java.util.Map;
import java.util.Random;

/** Runs of 512 calls, drawn from fixed seeds, on the program and on the model: each answer must be the same. */
public final class ModelTest {
    private static final int RUNS = 400;
    private static final int CALLS = 512;

    private static final Map<String, Method> OURS = methods(Valvekeeper.class);
    private static final Map<String, Method> THEIRS = methods(Model.class);
    private static final String[] NET = {"valve", "valve", "stick", "pump", "rule", "broke", "setLeak",
        "setPattern", "setDrought", "setTariff"};
    private static final String[] HOURS = {"pass", "head", "flow", "sweeps", "wasDry", "water", "excess",
        "quality", "foul", "cost", "fire"};
    private static final String[] BREAKS = {"isShutOff", "toShut", "toShutAt", "shut", "isCutOff", "turned"};
    private static final String[] METERS = {"setPace", "reading", "bill", "setDistrict", "missed", "used",
        "dryShare", "meanPressure", "isTrue"};

    private final Random random;
    private final int valvePercent;
    /** A long run comes to its last hour, 2000. */
    private final boolean isLong;
    /** In a wild run water swings between small tanks by wide pipes, more and more of it, beyond int and long. */
    private final boolean isWild;
    private final Valvekeeper ours = new Valvekeeper();
    private final Model theirs = new Model();
    private final List<String> told = new ArrayList<>();
    private int nodes;
    private int pipes;

    private ModelTest(long seed) {
        random = new Random(seed);
        valvePercent = 30 + random.nextInt(60);
        isLong = seed % 10 == 9;
        isWild = seed % 10 == 4 || seed % 40 == 9;
    }

    private static Map<String, Method> methods(Class<?> of) {
        Map<String, Method> found = new HashMap<>();
        for (Method method : of.getMethods()) {
            if (method.getDeclaringClass() == of) {
                found.put(method.getName(), method);
            }
        }
        return found;
    }

    private static Object answer(Method method, Object on, Object[] args) {
        try {
            return method.invoke(on, args);
        } catch (InvocationTargetException e) {
            boolean isOurs = on instanceof Model || Due.isThrownByCode(e.getCause());
            return (isOurs ? "" : "the machine's ") + e.getCause().getClass().getName();
        } catch (IllegalAccessException e) {
            throw new IllegalStateException(e);
        }
    }

    private Object call(String name, Object... args) {
        Object due = answer(THEIRS.get(name), theirs, args);
        Object got = answer(OURS.get(name), ours, args);
        told.add(name + java.util.Arrays.toString(args) + " -> " + got);
        if (!due.equals(got) && !(due instanceof Double d && got instanceof Double g && d + 0.0 == g + 0.0)) {
            for (String line : told) {
                System.out.println(line);
            }
            System.out.println("due is " + due);
            System.exit(1);
        }
        return got;
    }

    /** Mostly within the range, now and then one beyond it or far off. */
    private int number(int least, int most) {
        int draw = random.nextInt(100);
        if (draw < 2) {
            return least - 1;
        }
        if (draw < 4) {
            return most + 1;
        }
        if (draw == 4) {
            return random.nextBoolean() ? Integer.MIN_VALUE : Integer.MAX_VALUE;
        }
        if (draw < 12) {
            return least;
        }
        if (draw < 20) {
            return most;
        }
        return least + random.nextInt(Math.max(1, most - least + 1));
    }

    private int node() {
        return number(0, nodes - 1);
    }

    private int pipe() {
        return number(0, pipes - 1);
    }

    private boolean either() {
        return random.nextBoolean();
    }

    private void addNode() {
        Object added;
        if (random.nextInt(isWild ? 2 : 4) == 0) {
            added = call("tank", number(0, 200), number(1, isWild ? 3 : 50), number(0, either() ? 9999 : 600));
        } else {
            added = call("junction", number(0, either() ? 200 : 60), number(0, either() ? 99 : 9));
        }
        if (added instanceof Integer) {
            nodes++;
        }
    }

    private void addSwing() {
        for (int i = 0; i < 2; i++) {
            call("tank", random.nextInt(9), 1, 500 * i);
            nodes++;
        }
        for (int i = 0; i < 4; i++) {
            call("pipe", 0, 1, 8, '-', 0, 0);
            pipes++;
        }
    }

    private void addPipe() {
        int valves = (random.nextInt(100) < valvePercent ? 1 : 0) + (random.nextInt(100) < valvePercent ? 2 : 0);
        if (random.nextInt(20) == 0) {
            valves = number(0, 3);
        }
        char kind = "---->>pp".charAt(random.nextInt(8));
        if (random.nextInt(50) == 0) {
            kind = (char) random.nextInt(256);
        }
        if (call("pipe", node(), node(), number(isWild ? 6 : 1, 9), kind, number(1, 99), valves) instanceof Integer) {
            pipes++;
        }
    }

    private void callOne(String name) {
        switch (name) {
            case "valve" -> call(name, pipe(), either(), random.nextInt(3) > 0);
            case "stick" -> call(name, pipe(), either(), random.nextInt(3) == 0);
            case "pump" -> call(name, pipe(), random.nextInt(3) > 0);
            case "broke" -> call(name, pipe(), random.nextInt(3) == 0);
            case "rule" -> {
                int low = number(0, either() ? 999 : 30);
                call(name, pipe(), random.nextInt(8) == 0 ? -1 : node(), low, low + number(0, 20));
            }
            case "setLeak" -> call(name, node(), number(0, 50));
            case "setPattern" -> call(name, number(0, 23), number(0, 300));
            case "setDrought" -> call(name, number(0, 100));
            case "setTariff" -> call(name, number(0, 23), number(0, 99));
            case "pass" -> call(name, isLong ? number(20, 24) : random.nextInt(3) > 0 ? 1 : number(1, 24));
            case "head", "wasDry", "water", "excess", "fire", "isCutOff", "reading" -> call(name, node());
            case "flow", "isShutOff", "toShut", "shut" -> call(name, pipe());
            case "toShutAt" -> call(name, pipe(), number(0, 3));
            case "quality" -> call(name, node(), "acfx".charAt(random.nextInt(20) == 0 ? 3 : random.nextInt(3)));
            case "foul" -> call(name, node(), number(0, 1000));
            case "setPace" -> call(name, node(), number(0, 200));
            case "bill" -> call(name, node(), either());
            case "setDistrict" -> call(name, node(), number(0, 3));
            case "missed" -> call(name, number(0, 3));
            default -> call(name);
        }
    }

    private void run() {
        int startNodes = 2 + random.nextInt(9);
        int startPipes = 1 + random.nextInt(20);
        if (isWild) {
            addSwing();
        }
        for (int i = 0; i < startNodes; i++) {
            addNode();
        }
        for (int i = 0; i < startPipes; i++) {
            addPipe();
        }
        while (told.size() < CALLS) {
            int draw = random.nextInt(100);
            if ((isLong || isWild) && random.nextInt(4) == 0) {
                callOne("pass");
            } else if (draw < 2) {
                addNode();
            } else if (draw < 5) {
                addPipe();
            } else if (draw < 35) {
                callOne(NET[random.nextInt(NET.length)]);
            } else if (draw < 65) {
                callOne(HOURS[random.nextInt(HOURS.length)]);
            } else if (draw < 80) {
                callOne(BREAKS[random.nextInt(BREAKS.length)]);
            } else {
                callOne(METERS[random.nextInt(METERS.length)]);
            }
        }
    }

    public static void main(String[] args) {
        int runs = args.length > 0 ? Integer.parseInt(args[0]) : RUNS;
        int first = args.length > 1 ? Integer.parseInt(args[1]) : 0;
        for (int i = first; i < first + runs; i++) {
            new ModelTest(i).run();
        }
        System.out.println("all answers of " + runs + " runs are those of the model");
    }
}
