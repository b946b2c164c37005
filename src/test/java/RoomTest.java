import java.lang.management.ManagementFactory;

/**
 * All calls of a run live in one room: calls make nothing, but for what is added to the net, for exceptions, and for
 * longer rows of digits as numbers grow. An object of the greatest net, used for 512 calls, is counted here, and one
 * whose tanks swing for 2000 hours, so that its numbers grow as much as they can.
 */
public final class RoomTest {
    private static final int CALLS = 512;
    private static final long MOST_TO_BUILD = 64 * 1024;
    private static final long MOST_TO_USE = 4 * 1024;
    private static final long MOST_TO_SWING = 512 * 1024;

    public static void main(String[] args) {
        long built = Long.MAX_VALUE;
        long used = Long.MAX_VALUE;
        // The first rounds load classes too; the least of all is what the calls themselves take.
        for (int i = 0; i < 5; i++) {
            long ahead = taken();
            Valvekeeper x = build();
            long between = taken();
            use(x);
            built = Math.min(built, between - ahead);
            used = Math.min(used, taken() - between);
        }
        long swung = swing();
        long leastBuilt = built;
        long leastUsed = used;
        Due.is("bytes to build the greatest net, " + built, true, () -> leastBuilt <= MOST_TO_BUILD);
        Due.is("bytes to use it, " + used, true, () -> leastUsed <= MOST_TO_USE);
        Due.is("bytes to swing, " + swung, true, () -> swung <= MOST_TO_SWING);
        Due.end();
    }

    private static long taken() {
        return ((com.sun.management.ThreadMXBean) ManagementFactory.getThreadMXBean()).getCurrentThreadAllocatedBytes();
    }

    /** 40 calls: two tanks, 14 junctions in a ring, ways across it, and two pumps. */
    private static Valvekeeper build() {
        Valvekeeper x = new Valvekeeper();
        x.tank(100, 50, 9999);
        for (int i = 0; i < 14; i++) {
            x.junction(i, 5);
        }
        x.tank(0, 50, 9999);
        for (int i = 1; i <= 14; i++) {
            x.pipe(i, i % 14 + 1, 5, i % 3 == 0 ? '>' : '-', 0, 3);
        }
        for (int i = 1; i <= 4; i++) {
            x.pipe(0, i, 5, '-', 0, 3);
            x.pipe(15, i + 7, 5, '-', 0, 3);
        }
        x.pipe(15, 1, 9, 'p', 99, 3);
        x.pipe(15, 2, 9, 'p', 99, 3);
        return x;
    }

    /** Two small tanks, with eight wide pipes between them, and the rest of the net hung at them. */
    private static long swing() {
        Valvekeeper x = new Valvekeeper();
        x.tank(0, 1, 9999);
        x.tank(0, 1, 0);
        for (int i = 2; i < 16; i++) {
            x.setLeak(x.junction(0, 5), 50);
        }
        for (int i = 0; i < 10; i++) {
            x.pipe(0, 1, 9, '-', 0, 0);
        }
        for (int i = 2; i < 16; i++) {
            x.pipe(i % 2, i, 9, '-', 0, 0);
        }
        long ahead = taken();
        for (int i = 0; i < 83; i++) {
            x.pass(24);
        }
        x.fire(2);
        x.pass(8);
        return taken() - ahead;
    }

    private static void use(Valvekeeper x) {
        for (int i = 40; i < CALLS - 8; i += 8) {
            int pipe = i / 8 % 24;
            x.pass(1 + i % 24);
            x.fire(1 + pipe % 14);
            x.isTrue();
            if (x.toShut(pipe) > 0) {
                x.toShutAt(pipe, 0);
            }
            x.isCutOff(pipe % 16);
            x.bill(1 + pipe % 14, i % 16 == 0);
            x.valve(pipe, true, i % 64 == 0);
        }
        x.shut(4);
    }
}
