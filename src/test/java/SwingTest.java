/**
 * Water that swings between two small tanks, more and more of it: four pipes of width 9 let 4 times nine tenths of the
 * difference flow, so that the fuller tank is empty behind each hour, and the other one holds 3.6 times what that one
 * held. Tank 0 is the fuller one in each odd hour, counted from 1; in each even hour it is empty. No answer here
 * depends on how much water there is, but those that no int tells.
 */
public final class SwingTest {
    private static final int HIGH = 60;

    private static Valvekeeper swing() {
        Valvekeeper x = new Valvekeeper();
        x.tank(0, 1, 100);
        x.tank(0, 1, 0);
        for (int i = 0; i < 4; i++) {
            x.pipe(0, 1, 9, '-', 0, 0);
        }
        return x;
    }

    /** Node 2 hangs at tank 0 by pipe 4, node 3 at tank 1 by pipe 5, both one higher than the tanks are. */
    private static Valvekeeper swingWithJunctions() {
        Valvekeeper x = swing();
        x.junction(1, 0);
        x.junction(1, 0);
        x.pipe(0, 2, 9, '-', 0, 0);
        x.pipe(1, 3, 9, '-', 0, 0);
        x.setDistrict(3, 1);
        return x;
    }

    private static void pass(Valvekeeper x, int hours) {
        for (int left = hours; left > 0; left -= 24) {
            x.pass(Math.min(left, 24));
        }
    }

    /** The run of the fault: the head of a junction at tank 0 is that of the empty tank. */
    private static void headsOfEvenHours() {
        for (int hours = 2; hours <= 2000; hours += 222) {
            Valvekeeper x = swing();
            x.junction(0, 0);
            x.pipe(0, 2, 9, '-', 0, 0);
            pass(x, hours);
            Due.is("head behind " + hours, 0, () -> x.head(2));
            Due.is("flow behind " + hours, 0, () -> x.flow(4));
            Due.is("no one dry behind " + hours, false, () -> x.wasDry(2));
            // The first sweep brings the head down from where the last hour left it, the second one changes nothing.
            Due.is("sweeps behind " + hours, 2, x::sweeps);
            Due.is("excess behind " + hours, 0, () -> x.excess(2));
            Due.is("mean pressure behind " + hours, 0.0, x::meanPressure);
            // Nothing ever flows into the junction.
            Due.is("age behind " + hours, Math.min(hours, 1000), () -> x.quality(2, 'a'));
        }
    }

    private static void whoIsDry() {
        Valvekeeper x = swingWithJunctions();
        for (int hour = 1; hour <= 400; hour++) {
            boolean isOdd = hour % 2 == 1;
            x.pass(1);
            Due.is("node 2 dry in " + hour, !isOdd, () -> x.wasDry(2));
            Due.is("node 3 dry in " + hour, isOdd, () -> x.wasDry(3));
            Due.is("share of dry ones in " + hour, 0.5f, x::dryShare);
            Due.is("head of the dry one in " + hour, 0, () -> x.head(isOdd ? 3 : 2));
            Due.is("water of the tank that was fuller in " + hour, 0, () -> x.water(isOdd ? 0 : 1));
            Due.is("head of that tank in " + hour, 0, () -> x.head(isOdd ? 0 : 1));
            Due.is("missed in 0 in " + hour, 0, () -> x.missed(0));
            Due.is("missed in 1 in " + hour, 0, () -> x.missed(1));
        }
        Due.is("nothing was got, nothing leaked", 0L, x::used);
    }

    /** On by the rule in each even hour, and off in each odd one: 1 for the hour, and 5 for the start. */
    private static void pumpByRule() {
        for (int high : new int[] {HIGH, 99, Integer.MAX_VALUE}) {
            Valvekeeper x = swing();
            x.junction(0, 0);
            x.pipe(2, 0, 1, 'p', 1, 1);
            x.valve(4, false, false);
            x.rule(4, 0, 50, high);
            pass(x, 34);
            Due.is("cost behind 34 with " + high, high == Integer.MAX_VALUE ? lateCost(34) : 102L, x::cost);
            pass(x, 1966);
            Due.is("cost behind 2000 with " + high, high == Integer.MAX_VALUE ? lateCost(2000) : 6000L, x::cost);
        }
    }

    /**
     * The level of tank 0 in an odd hour is above the greatest mark from some hour on; the level is 100 in the hour 1,
     * and 4 times nine tenths of that of the hour before, rounded down, in each other one. The pump starts in the
     * second hour and goes on until then; behind that it starts in each even hour.
     */
    private static long lateCost(int hours) {
        long level = 100;
        int firstOff = 1;
        while (level <= Integer.MAX_VALUE) {
            for (int i = 0; i < 2; i++) {
                level = 4 * (9 * level / 10);
            }
            firstOff += 2;
        }
        long cost = firstOff - 2 + 5;
        return cost + 6L * ((hours - firstOff + 1) / 2);
    }

    /** What is sucked from a tank by a junction between both is what it gives to the other one, but for a rest. */
    private static void through() {
        Valvekeeper x = swing();
        x.junction(0, 0);
        x.pipe(0, 2, 5, '-', 0, 0);
        x.pipe(2, 1, 5, '-', 0, 0);
        for (int hour = 1; hour <= 500; hour++) {
            x.pass(1);
            // Half the difference to each side, or one more on one of them: half of that, rounded, is the excess.
            Due.is("excess in " + hour, true, () -> Math.abs(x.excess(2)) <= 1);
            Due.is("missed in " + hour, x.excess(2), () -> x.missed(0));
            Due.is("all of it comes from the fuller tank in " + hour, 900, () -> x.quality(2, 'c'));
            Due.is("age in " + hour, 1, () -> x.quality(2, 'a'));
        }
    }

    /** From the fuller tank alone comes water, by pipes that let it go to the junction alone; it is foul by turns. */
    private static void mixed() {
        Valvekeeper x = swing();
        x.foul(0, 1000);
        x.foul(1, 501);
        x.junction(0, 0);
        x.pipe(0, 2, 5, '>', 0, 0);
        x.pipe(1, 2, 5, '>', 0, 0);
        for (int hour = 1; hour <= 300; hour++) {
            x.pass(1);
            Due.is("foul in " + hour, hour % 2 == 1 ? 1000 : 501, () -> x.quality(2, 'f'));
            // One sweep pulls the junction up to the tank, and the next one, with nothing to pull, back to its height.
            Due.is("sweeps in " + hour, 60, x::sweeps);
        }
    }

    /** An int can't tell the water, so the answer is the nearest one that it can. */
    private static void beyondInt() {
        Valvekeeper x = swingWithJunctions();
        x.setLeak(2, 50);
        pass(x, 35);
        Due.is("water", Integer.MAX_VALUE, () -> x.water(1));
        Due.is("head of the tank", Integer.MAX_VALUE, () -> x.head(1));
        Due.is("head of the junction", Integer.MAX_VALUE, () -> x.head(2));
        Due.is("flow to the second node", Integer.MAX_VALUE, () -> x.flow(0));
        Due.is("excess", Integer.MIN_VALUE, () -> x.excess(2));
        Due.is("used", Long.MAX_VALUE, x::used);
        x.pass(1);
        Due.is("flow to the first node", Integer.MIN_VALUE, () -> x.flow(0));
        Due.is("head of the junction, the tank being empty", 0, () -> x.head(2));
        Due.is("excess then", 0, () -> x.excess(2));
        Due.is("used stays", Long.MAX_VALUE, x::used);
    }

    /**
     * Bills by guess run ahead of the reading, and a reading brings them back, more than twice as far: behind
     * 60 rounds no long tells them. Two guesses ahead of a reading, and what the three come to, is 0; so is the guess.
     */
    private static void billsBeyondInt() {
        Valvekeeper x = new Valvekeeper();
        x.tank(200, 1, 100);
        x.junction(0, 99);
        x.pipe(0, 1, 9, '-', 0, 0);
        x.pass(1);
        Due.is("the first bill", 99, () -> x.bill(1, true));
        for (int round = 0; round < 60; round++) {
            for (int i = 0; i < 6; i++) {
                x.bill(1, false);
            }
            boolean isBack = round % 2 == 0;
            Due.is("back and forth in round " + round, true, () -> x.bill(1, true) < 0 == isBack);
        }
        x.bill(1, false);
        x.bill(1, false);
        x.bill(1, true);
        Due.is("a guess of two guesses and their opposite", 0, () -> x.bill(1, false));
        Due.is("the reading", 99, () -> x.reading(1));
        x.bill(1, true);
        Due.is("nothing was counted since", 0, () -> x.bill(1, true));
    }

    /** The mean of 14 like pressures is that of one, also where a double tells it, but not the sum of all. */
    private static void meanPressures() {
        Valvekeeper one = swing();
        Valvekeeper all = swing();
        for (int i = 0; i < 14; i++) {
            all.junction(0, 0);
            all.pipe(0, 2 + i, 9, '-', 0, 0);
        }
        one.junction(0, 0);
        one.pipe(0, 2, 9, '-', 0, 0);
        double greatest = 0;
        for (int hour = 1; hour <= 600; hour++) {
            one.pass(1);
            all.pass(1);
            double mean = one.meanPressure();
            greatest = mean < Double.POSITIVE_INFINITY ? Math.max(greatest, mean) : greatest;
            Due.is("mean in " + hour, mean, all::meanPressure);
            Due.is("not 0 in odd hours, in " + hour, hour % 2 == 0, () -> mean == 0);
        }
        double last = greatest;
        Due.is("14 times the last one is beyond double, " + last, true, () -> 14 * last > Double.MAX_VALUE);
    }

    public static void main(String[] args) {
        headsOfEvenHours();
        whoIsDry();
        pumpByRule();
        through();
        mixed();
        beyondInt();
        billsBeyondInt();
        meanPressures();
        Due.end();
    }
}
