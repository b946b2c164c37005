import java.util.ArrayList;
import java.util.Arrays;
import java.util.List;
import java.util.Random;

/**
 * Promises 26, 27 and 39 in dense nets from fixed seeds: as many valves are to shut as ways go over them at most, a
 * valve by one way, from the pipe to the tanks; the first set is found by taking each valve without which there is
 * one way less.
 */
public final class SetsTest {
    /** In these nets a way has to give way to others more than once. */
    private static final int[] HARD = {24, 132, 165, 770, 76555, 78372};
    private static final int NETS = 150;
    private static final int ANY = 1000;

    private final Valvekeeper x = new Valvekeeper();
    private final int nodes;
    private final int pipes;
    private final int tanks;
    /** The nodes at the ends of pipes, by valves: the first end of pipe p is 2 * p. */
    private final int[] nodeAt;
    private final boolean[] canBeShut;

    private SetsTest(int seed) {
        Random random = new Random(seed);
        nodes = 4 + random.nextInt(13);
        pipes = 8 + random.nextInt(17);
        int valvePercent = 30 + random.nextInt(71);
        tanks = 1 + random.nextInt(2);
        int stuckPercent = random.nextInt(30);
        nodeAt = new int[2 * pipes];
        canBeShut = new boolean[2 * pipes];
        for (int i = 0; i < nodes; i++) {
            if (i < tanks) {
                x.tank(0, 1, 0);
            } else {
                x.junction(0, 0);
            }
        }
        for (int pipe = 0; pipe < pipes; pipe++) {
            addPipe(random, pipe, valvePercent, stuckPercent);
        }
    }

    private void addPipe(Random random, int pipe, int valvePercent, int stuckPercent) {
        int first = random.nextInt(nodes);
        int second = random.nextInt(nodes);
        while (second == first) {
            second = random.nextInt(nodes);
        }
        nodeAt[2 * pipe] = first;
        nodeAt[2 * pipe + 1] = second;
        canBeShut[2 * pipe] = random.nextInt(100) < valvePercent;
        canBeShut[2 * pipe + 1] = random.nextInt(100) < valvePercent;
        x.pipe(first, second, 1, '-', 0, (canBeShut[2 * pipe] ? 1 : 0) + (canBeShut[2 * pipe + 1] ? 2 : 0));
        for (int valve = 2 * pipe; valve < 2 * pipe + 2; valve++) {
            if (canBeShut[valve] && random.nextInt(100) < stuckPercent) {
                canBeShut[valve] = false;
                x.stick(pipe, valve % 2 == 1, true);
            }
        }
    }

    /** How many ways still go from a place to one: nodes from 0, then pipes, and behind them what all tanks lead to. */
    private int[][] ways(List<Integer> shut) {
        int last = nodes + pipes;
        int[][] ways = new int[last + 1][last + 1];
        for (int valve = 0; valve < 2 * pipes; valve++) {
            if (!shut.contains(valve)) {
                int many = canBeShut[valve] ? 1 : ANY;
                ways[nodes + valve / 2][nodeAt[valve]] = many;
                ways[nodeAt[valve]][nodes + valve / 2] = many;
            }
        }
        for (int tank = 0; tank < tanks; tank++) {
            ways[tank][last] = ANY;
        }
        return ways;
    }

    /** So many ways, or ANY if one goes over no valve that can be shut. */
    private int countWays(int pipe, List<Integer> shut) {
        int[][] ways = ways(shut);
        int count = 0;
        int[] from = from(ways, nodes + pipe);
        while (from[nodes + pipes] >= 0 && count < 2 * pipes) {
            for (int at = nodes + pipes; at != nodes + pipe; at = from[at]) {
                ways[from[at]][at]--;
                ways[at][from[at]]++;
            }
            count++;
            from = from(ways, nodes + pipe);
        }
        return count < 2 * pipes ? count : ANY;
    }

    /** From which place each one is reached; -1 if it is not. */
    private static int[] from(int[][] ways, int start) {
        int[] from = new int[ways.length];
        Arrays.fill(from, -1);
        from[start] = start;
        List<Integer> reached = new ArrayList<>(List.of(start));
        for (int i = 0; i < reached.size(); i++) {
            int at = reached.get(i);
            for (int to = 0; to < ways.length; to++) {
                if (from[to] < 0 && ways[at][to] > 0) {
                    from[to] = at;
                    reached.add(to);
                }
            }
        }
        return from;
    }

    private List<Integer> firstSet(int pipe) {
        List<Integer> set = new ArrayList<>();
        int left = countWays(pipe, set);
        if (left == ANY) {
            return null;
        }
        for (int valve = 0; valve < 2 * pipes && left > 0; valve++) {
            if (canBeShut[valve]) {
                set.add(valve);
                if (countWays(pipe, set) == left - 1) {
                    left--;
                } else {
                    set.remove(set.size() - 1);
                }
            }
        }
        return set;
    }

    private List<Integer> setOf(int pipe) {
        List<Integer> set = new ArrayList<>();
        int size = x.toShut(pipe);
        for (int i = 0; i < size; i++) {
            set.add(x.toShutAt(pipe, i));
        }
        return set;
    }

    private void run(int seed) {
        for (int i = 0; i < pipes; i++) {
            int pipe = i;
            List<Integer> due = firstSet(pipe);
            Due.is("26, 27: pipe " + pipe + " of net " + seed, due == null ? Due.NO_ELEMENT : due, () -> setOf(pipe));
        }
        Due.is("39: net " + seed, true, x::isTrue);
    }

    public static void main(String[] args) {
        int first = args.length > 1 ? Integer.parseInt(args[0]) : 0;
        int behind = args.length > 1 ? Integer.parseInt(args[1]) : NETS;
        for (int seed : HARD) {
            new SetsTest(seed).run(seed);
        }
        for (int seed = first; seed < behind; seed++) {
            new SetsTest(seed).run(seed);
        }
        Due.end();
    }
}
