/** What the tests of the sentences share: to tell them, cities to begin with, and calls to refuse. */
abstract class Sentences {
    static final int LEAST = Integer.MIN_VALUE;
    static final int MOST = Integer.MAX_VALUE;

    /** A call on a node, a pipe or a number. */
    interface At {
        Object go(Valvekeeper x, int number);
    }

    /** Ends a test of the promises from the first to the last one. */
    static void end(int first, int last) {
        String[] names = new String[last - first + 1];
        for (int i = 0; i < names.length; i++) {
            names[i] = "Promise " + (first + i);
        }
        Said.end(names);
    }

    static void promise(int number, String words) {
        Said.part("Promise " + number);
        Said.says(words);
    }

    static void says(String words) {
        Said.says(words);
    }

    static void is(Object due, Due.Call call) {
        Said.is(due, call);
    }

    static void are(Object due, Due.Call... calls) {
        Said.are(due, calls);
    }

    static void refused(Class<?> due, At call, int... numbers) {
        for (int number : numbers) {
            Said.refused(Twin.CITY, due, x -> call.go(x, number));
        }
    }

    static void noSuchNode(At... calls) {
        says("Throws `IndexOutOfBoundsException` if there is no such node");
        for (At call : calls) {
            refused(Due.INDEX, call, -1, 6, 16, LEAST, MOST);
            Said.refused(Twin.EMPTY, Due.INDEX, x -> call.go(x, 0));
            Said.refused(Twin.FULL, Due.INDEX, x -> call.go(x, 16));
        }
    }

    static void noSuchPipe(At... calls) {
        says("Throws `IndexOutOfBoundsException` if there is no such pipe");
        for (At call : calls) {
            // Twice the pipe 1 << 30 or 1 << 31 wraps around.
            refused(Due.INDEX, call, -1, 6, 24, LEAST, MOST, 1 << 30);
            Said.refused(Twin.EMPTY, Due.INDEX, x -> call.go(x, 0));
            Said.refused(Twin.FULL, Due.INDEX, x -> call.go(x, 24));
        }
    }

    static void isTank(At... calls) {
        says("Throws `UnsupportedOperationException` if it is a tank");
        for (At call : calls) {
            refused(Due.UNSUPPORTED, call, 0, 5);
        }
    }

    static void isNoTank(At call) {
        says("Throws `UnsupportedOperationException` if it is no tank");
        refused(Due.UNSUPPORTED, call, 1, 4);
    }

    static void hasNoPump(At call) {
        says("Throws `UnsupportedOperationException` if it has no pump");
        refused(Due.UNSUPPORTED, call, 0, 2, 4);
    }

    static void hasNoSet(At call) {
        says("Throws `NoSuchElementException` if no set shuts it off");
        Said.refused(Twin.BARE, Due.NO_ELEMENT, x -> call.go(x, 0));
    }

    static void outOfRange(At call, int... numbers) {
        says("Throws `IllegalArgumentException` if it is out of range");
        refused(Due.ARGUMENT, call, numbers);
    }

    /** A tank with the head 100 that hardly sinks, over a junction at the height 0, by pipe 0, 4 wide. */
    static Valvekeeper line(int demand) {
        Valvekeeper x = new Valvekeeper();
        x.tank(100, 50, 0);
        x.junction(0, demand);
        x.pipe(0, 1, 4, '-', 0, 3);
        return x;
    }

    /** Tank 0, junctions 1 to 3 in a row by pipes 0 to 2 with valves at both ends. */
    static Valvekeeper row() {
        Valvekeeper x = new Valvekeeper();
        x.tank(100, 50, 0);
        for (int node = 1; node <= 3; node++) {
            x.junction(0, 1);
            x.pipe(node - 1, node, 4, '-', 0, 3);
        }
        return x;
    }

    /** Junction 0 without pipes, and tank 1. */
    static Valvekeeper alone(int demand) {
        Valvekeeper x = new Valvekeeper();
        x.junction(0, demand);
        x.tank(0, 1, 0);
        return x;
    }

    /** Tank 0 at the level 10 and tank 1 at the level 20; pumps 0 and 1 between junctions. */
    static Valvekeeper pumps() {
        Valvekeeper x = new Valvekeeper();
        x.tank(50, 10, 109);
        x.tank(50, 10, 200);
        x.junction(0, 0);
        x.junction(0, 0);
        x.pipe(2, 3, 1, 'p', 1, 0);
        x.pipe(2, 3, 1, 'p', 1, 0);
        return x;
    }

    /** Valves 3, 4, 10 and 11 of the city are not there. */
    static void noValve(At call) {
        says("Throws `NoSuchElementException` if there is no valve at this end");
        refused(Due.NO_ELEMENT, call, 3, 4, 10, 11);
    }
}
