/** Promises 14 to 24: hours, heads, flows, tanks, quality, what pumps cost, and fire. */
public final class HoursTest {
    private static final int LEAST = Integer.MIN_VALUE;
    private static final int MOST = Integer.MAX_VALUE;

    public static void main(String[] args) {
        pass();
        twoThousandHours();
        head();
        headsGoDownToADepth();
        headsRoundDown();
        risingNumbersSeeNewHeads();
        headsStartFromThoseThatTheyHad();
        liftsOnBothEnds();
        oneWayPullsIfItWouldGo();
        flow();
        sweeps();
        sixtySweeps();
        wasDry();
        water();
        waterIsAtLeastNothing();
        orderOfAnHour();
        excess();
        age();
        chlorine();
        foulIsMixed();
        qualityOfDrops();
        qualityAheadOfTheHour();
        foul();
        cost();
        fire();
        fireNextHour();
        fireBesideOthers();
        fireForEachLesserOne();
        fireChangesNothing();
        Due.end();
    }

    /** A tank with the head 100 over a junction at the height 0, by a pipe 4 wide. */
    private static Valvekeeper line(int demand) {
        Valvekeeper x = new Valvekeeper();
        x.tank(100, 50, 0);
        x.junction(0, demand);
        x.pipe(0, 1, 4, '-', 0, 0);
        return x;
    }

    private static void pass() {
        Valvekeeper x = line(1);
        Due.is("14: least", 1, () -> x.pass(1));
        Due.is("14: greatest, with all that went by", 25, () -> x.pass(24));
        Due.is("14: hours went by one by one", 25L, x::used);
        Due.allOf("14: out of range", Due.ARGUMENT, () -> x.pass(0), () -> x.pass(25), () -> x.pass(-1),
            () -> x.pass(LEAST), () -> x.pass(MOST));
        Due.is("14: a refused one lets no hour go by", 25L, x::used);
        Due.is("14: on", 28, () -> x.pass(3));
    }

    private static void twoThousandHours() {
        Valvekeeper x = line(1);
        for (int i = 1; i <= 83; i++) {
            x.pass(24);
        }
        Due.is("14: more than 2000", Due.STATE, () -> x.pass(9));
        Due.is("14: not a part of them goes by", 1992L, x::used);
        Due.is("14: 2000", 2000, () -> x.pass(8));
        Due.is("14: more than 2000", Due.STATE, () -> x.pass(1));
        Due.is("14: the range is looked at first", Due.ARGUMENT, () -> x.pass(25));
        Due.is("14: 2000 hours", 2000L, x::used);
    }

    private static void head() {
        Valvekeeper x = line(8);
        Due.is("15: of a tank", 100, () -> x.head(0));
        Due.is("15: of a junction at first", 0, () -> x.head(1));
        x.pass(1);
        // (4 * 100 - 80) / 4
        Due.is("15: as it was found", 80, () -> x.head(1));
        x.broke(0, true);
        Due.is("15: as it was found last", 80, () -> x.head(1));
        x.tank(20, 7, 6999);
        Due.is("15: level rounded down", 1019, () -> x.head(2));
        x.pipe(2, 0, 1, '-', 0, 0);
        x.pass(1);
        // 91 flow out of 6999: 6908 / 7 = 986.
        Due.is("15: of a tank, as it is now", 1006, () -> x.head(2));
        Due.allOf("15: no such node", Due.INDEX, () -> x.head(-1), () -> x.head(3), () -> x.head(LEAST),
            () -> x.head(MOST));
    }

    private static void headsGoDownToADepth() {
        Valvekeeper x = new Valvekeeper();
        x.tank(150, 50, 0);
        x.junction(150, 99);
        x.junction(150, 10);
        x.junction(150, 11);
        for (int node = 1; node <= 3; node++) {
            x.pipe(0, node, 1, '-', 0, 0);
        }
        x.pass(1);
        Due.is("15: at least the height less 100", 50, () -> x.head(1));
        Due.is("15: just so", 50, () -> x.head(2));
        Due.is("15: at least the height less 100", 50, () -> x.head(3));
    }

    private static void headsRoundDown() {
        Valvekeeper x = new Valvekeeper();
        x.tank(0, 50, 0);
        x.junction(0, 1);
        x.pipe(0, 1, 3, '-', 0, 0);
        x.pass(1);
        // (3 * 0 - 10) / 3, rounded down.
        Due.is("15: rounded down below 0", -4, () -> x.head(1));
        Due.is("16: but flows toward 0", 1, () -> x.flow(0));
    }

    private static void risingNumbersSeeNewHeads() {
        Valvekeeper x = new Valvekeeper();
        x.junction(0, 1);
        x.junction(0, 1);
        x.tank(100, 50, 0);
        x.pipe(0, 1, 1, '-', 0, 0);
        x.pipe(1, 2, 1, '-', 0, 0);
        x.pass(1);
        // Sweep by sweep the junctions have -10, 40; 30, 60; 50, 70; 60, 75; 65, 77; 67, 78; 68, 79.
        Due.is("15: junctions by rising numbers", 68, () -> x.head(0));
        Due.is("15: junctions by rising numbers", 79, () -> x.head(1));
        Due.is("17: junctions by rising numbers", 7, x::sweeps);
    }

    private static void headsStartFromThoseThatTheyHad() {
        Valvekeeper x = new Valvekeeper();
        x.junction(0, 1);
        x.junction(0, 1);
        x.tank(100, 50, 0);
        x.pipe(0, 1, 1, '-', 0, 0);
        x.pipe(1, 2, 1, '-', 0, 0);
        x.pass(2);
        // The tank gives water without end; from 68, 79 one sweep finds 69, 79.
        Due.is("15: from the heads that they had", 69, () -> x.head(0));
        Due.is("15: from the heads that they had", 79, () -> x.head(1));
        Due.is("17: from the heads that they had", 1, x::sweeps);
    }

    private static void liftsOnBothEnds() {
        Valvekeeper x = new Valvekeeper();
        x.tank(50, 50, 0);
        x.junction(0, 2);
        x.tank(90, 50, 0);
        x.pipe(0, 1, 2, 'p', 30, 0);
        x.pipe(1, 2, 3, 'p', 40, 0);
        x.pump(0, true);
        x.pump(1, true);
        x.pass(1);
        // Sweep 1, from 0: the first pump pulls, the second one does not (0 + 40 < 90): (2 * 80 - 20) / 2 = 70.
        // Then both pull: (2 * (50 + 30) + 3 * (90 - 40) - 20) / 5 = 58; and the same again.
        Due.is("15: plus the lift that leads to it, less the one that leads away", 58, () -> x.head(1));
        Due.is("17: sweeps", 3, x::sweeps);
        Due.is("16: flow with the lift", 4, () -> x.flow(0));
        Due.is("16: flow with the lift", 2, () -> x.flow(1));
    }

    private static void oneWayPullsIfItWouldGo() {
        Valvekeeper x = new Valvekeeper();
        x.tank(60, 50, 0);
        x.junction(0, 6);
        x.tank(40, 50, 0);
        x.pipe(0, 1, 2, '-', 0, 0);
        x.pipe(2, 1, 2, '>', 0, 0);
        x.pass(1);
        // Sweep 1: (120 + 80 - 60) / 4 = 35, as 40 > 0; the same again, as 40 > 35.
        Due.is("15: it would go", 35, () -> x.head(1));
        Due.is("16: it goes", 1, () -> x.flow(1));
        x.setDrought(0);
        x.pass(1);
        // Sweep 1: (120 + 80) / 4 = 50; sweep 2, as 40 > 50 is not so: 120 / 2 = 60.
        Due.is("15: it would not go", 60, () -> x.head(1));
        Due.is("16: it does not go", 0, () -> x.flow(1));
        x.junction(40, 0);
        x.pipe(3, 2, 5, '>', 0, 0);
        x.pass(1);
        Due.is("15: as great is not greater: the height", 40, () -> x.head(3));
        Due.is("17: as great is not greater", 1, x::sweeps);
        Valvekeeper y = new Valvekeeper();
        y.tank(40, 50, 0);
        y.junction(39, 0);
        y.pipe(0, 1, 5, '>', 0, 0);
        y.pass(1);
        Due.is("15: greater by 1 pulls", 40, () -> y.head(1));
    }

    private static void flow() {
        Valvekeeper x = new Valvekeeper();
        x.tank(100, 50, 0);
        x.tank(71, 50, 0);
        x.pipe(0, 1, 1, '-', 0, 0);
        x.pipe(1, 0, 1, '-', 0, 0);
        x.pipe(1, 0, 9, '>', 0, 0);
        x.pipe(1, 0, 1, 'p', 20, 0);
        x.pipe(1, 0, 3, 'p', 40, 0);
        x.pump(3, true);
        Due.is("16: none at first", 0, () -> x.flow(0));
        x.pass(1);
        Due.is("16: toward 0", 2, () -> x.flow(0));
        Due.is("16: toward 0 from the second node to the first one", -2, () -> x.flow(1));
        Due.is("16: one way alone", 0, () -> x.flow(2));
        Due.is("16: a pump that is too weak", 0, () -> x.flow(3));
        Due.is("16: a pump that is off", 0, () -> x.flow(4));
        x.pump(4, true);
        Due.is("16: that of the last hour", 0, () -> x.flow(4));
        x.pass(1);
        Due.is("16: 3 * (71 + 40 - 100) / 10", 3, () -> x.flow(4));
        x.pump(4, false);
        Due.is("16: that of the last hour", 3, () -> x.flow(4));
        x.pass(1);
        Due.is("16: off again", 0, () -> x.flow(4));
        Due.allOf("16: no such pipe", Due.INDEX, () -> x.flow(-1), () -> x.flow(5), () -> x.flow(LEAST),
            () -> x.flow(MOST));
        x.pipe(0, 1, 9, '-', 0, 0);
        Due.is("16: of a new pipe", 0, () -> x.flow(5));
    }

    private static void sweeps() {
        Valvekeeper x = new Valvekeeper();
        Due.is("17: none at first", 0, x::sweeps);
        x.tank(2, 50, 0);
        x.junction(0, 0);
        x.pipe(0, 1, 1, '-', 0, 0);
        x.pass(1);
        Due.is("17: a change of 2 asks for another sweep", 2, x::sweeps);
        x.pass(1);
        Due.is("17: no change", 1, x::sweeps);
        x.junction(1, 0);
        x.pipe(0, 2, 1, '-', 0, 0);
        x.pass(1);
        Due.is("17: a change of 1 ends them", 1, x::sweeps);
        Due.is("17: but is made", 2, () -> x.head(2));
        x.junction(4, 0);
        x.pipe(0, 3, 1, '-', 0, 0);
        x.pass(1);
        Due.is("17: a change of 2 downward", 2, x::sweeps);
        x.fire(1);
        Due.is("17: fire is no hour", 2, x::sweeps);
        x.pass(2);
        Due.is("17: of the last hour alone", 1, x::sweeps);
    }

    private static void sixtySweeps() {
        Valvekeeper x = new Valvekeeper();
        x.tank(50, 50, 0);
        x.junction(0, 0);
        x.pipe(0, 1, 1, '>', 0, 0);
        x.pass(1);
        Due.is("17: heads that swing", 60, x::sweeps);
        Due.is("15: as the sixtieth sweep left it", 0, () -> x.head(1));
        Valvekeeper y = new Valvekeeper();
        y.tank(50, 50, 0);
        y.junction(100, 0);
        y.pipe(0, 1, 1, '-', 0, 1);
        y.pass(1);
        y.valve(0, false, false);
        y.pipe(0, 1, 1, '>', 0, 0);
        y.pass(1);
        Due.is("17: back to the height, and no swing", 2, y::sweeps);
    }

    private static void wasDry() {
        Valvekeeper x = new Valvekeeper();
        x.tank(100, 50, 0);
        x.junction(60, 4);
        x.junction(61, 4);
        x.junction(61, 0);
        for (int node = 1; node <= 3; node++) {
            x.pipe(0, node, 1, '-', 0, 0);
        }
        Due.is("18: not yet", false, () -> x.wasDry(2));
        x.pass(1);
        Due.is("18: a pressure of 0", false, () -> x.wasDry(1));
        Due.is("18: a pressure of -1", true, () -> x.wasDry(2));
        Due.is("18: a pressure of 39", false, () -> x.wasDry(3));
        Due.is("18: a tank", false, () -> x.wasDry(0));
        Due.is("18: dry ones get nothing", 4L, x::used);
        Due.is("18: dry ones get nothing", 0, () -> x.reading(2));
        x.setDrought(0);
        Due.is("18: in the last hour", true, () -> x.wasDry(2));
        x.pass(1);
        Due.is("18: not in the last hour", false, () -> x.wasDry(2));
        Due.allOf("18: no such node", Due.INDEX, () -> x.wasDry(-1), () -> x.wasDry(4), () -> x.wasDry(LEAST),
            () -> x.wasDry(MOST));
        Valvekeeper y = new Valvekeeper();
        y.tank(0, 50, 0);
        y.junction(50, 0);
        y.pipe(0, 1, 1, '-', 0, 0);
        y.pass(1);
        Due.is("18: dry without a demand", true, () -> y.wasDry(1));
    }

    private static void water() {
        Valvekeeper x = new Valvekeeper();
        x.tank(100, 10, 500);
        x.junction(0, 6);
        x.tank(50, 5, 9);
        x.pipe(0, 1, 1, '-', 0, 0);
        x.pipe(2, 0, 2, '-', 0, 0);
        Due.is("19: as told", 500, () -> x.water(0));
        x.pass(1);
        // To the junction at (150 - 60) / 1 = 90: 6; from 51 to 150 by 2 / 10: 19.
        Due.is("19: flown out", 475, () -> x.water(0));
        Due.is("19: flown in", 28, () -> x.water(2));
        Due.allOf("19: no such node", Due.INDEX, () -> x.water(-1), () -> x.water(3), () -> x.water(MOST));
        Due.is("19: no tank", Due.UNSUPPORTED, () -> x.water(1));
    }

    private static void waterIsAtLeastNothing() {
        Valvekeeper x = new Valvekeeper();
        x.tank(100, 1, 3);
        x.tank(0, 50, 0);
        x.tank(0, 50, 0);
        x.pipe(0, 1, 1, '-', 0, 0);
        x.pipe(2, 0, 1, 'p', 99, 0);
        x.pass(1);
        // 103 less 0 by 1 / 10: 10 flow out of 3.
        Due.is("19: at least 0", 0, () -> x.water(0));
        Due.is("19: what flowed comes in all the same", 10, () -> x.water(1));
        Due.is("16: what flowed", 10, () -> x.flow(0));
        Valvekeeper y = new Valvekeeper();
        y.tank(100, 1, 0);
        y.tank(0, 50, 0);
        y.tank(110, 50, 0);
        y.pipe(0, 1, 1, '-', 0, 0);
        y.pipe(2, 0, 9, '-', 0, 0);
        y.pass(1);
        // 10 out and 9 in: what flows in is less than what flows out.
        Due.is("19: in and out at once", 0, () -> y.water(0));
        y.pipe(2, 0, 2, '-', 0, 0);
        y.pass(1);
        Due.is("19: in and out at once", 1, () -> y.water(0));
    }

    /** Rules look at tanks as they are ahead of the hour, heads at pumps behind the rules. */
    private static void orderOfAnHour() {
        Valvekeeper x = new Valvekeeper();
        x.tank(0, 1, 10);
        x.tank(0, 50, 0);
        x.pipe(1, 0, 1, 'p', 60, 0);
        x.rule(0, 0, 11, 14);
        x.pass(1);
        // Level 10: on, and (0 + 60 - 10) / 10 = 5 flow in this hour.
        Due.is("14: a rule works in its hour", 15, () -> x.water(0));
        Due.is("14: cost of this hour", 6L, x::cost);
        x.pass(1);
        // Level 15: off.
        Due.is("14: and off", 15, () -> x.water(0));
        Due.is("14: cost of this hour", 6L, x::cost);
        Due.is("14: off", false, () -> x.pump(0, false));
    }

    private static void excess() {
        Valvekeeper x = line(8);
        x.junction(100, 9);
        x.pipe(1, 2, 1, '-', 0, 0);
        Due.is("20: nothing at first", 0, () -> x.excess(1));
        x.setLeak(1, 1);
        x.pass(1);
        // Sweeps: 1: (400 + 100 - 80) / 5 = 84, 84 - 90 = -6; 2: (400 - 6 - 80) / 5 = 62, -28 but at least 0 at 2;
        // 1 goes on to (400 + 0 - 80) / 5 = 64. Flows: 4 * 36 / 10 = 14 and 64 / 10 = 6; leak 64 / 10 = 6.
        Due.is("15: of the first", 64, () -> x.head(1));
        Due.is("15: of the second", 0, () -> x.head(2));
        Due.is("20: in 14, out 6, got 8, leaked 6", -6, () -> x.excess(1));
        Due.is("20: a dry one gets nothing of 6", 6, () -> x.excess(2));
        Due.is("20: a tank", 0, () -> x.excess(0));
        x.setLeak(1, 0);
        x.setDrought(0);
        Due.is("20: of the last hour", -6, () -> x.excess(1));
        Due.allOf("20: no such node", Due.INDEX, () -> x.excess(-1), () -> x.excess(3), () -> x.excess(MOST));
    }

    private static void age() {
        Valvekeeper x = line(8);
        x.junction(0, 8);
        x.pipe(1, 2, 4, '-', 0, 0);
        x.junction(0, 0);
        Due.is("21: age at first", 0, () -> x.quality(2, 'a'));
        x.pass(1);
        Due.is("21: from the tank, and an hour", 1, () -> x.quality(1, 'a'));
        Due.is("21: from a junction as it was, and an hour", 1, () -> x.quality(2, 'a'));
        Due.is("21: without inflow, and an hour", 1, () -> x.quality(3, 'a'));
        x.pass(1);
        Due.is("21: from the tank", 1, () -> x.quality(1, 'a'));
        Due.is("21: from a junction as it was", 2, () -> x.quality(2, 'a'));
        Due.is("21: without inflow", 2, () -> x.quality(3, 'a'));
        Due.is("21: a tank", 0, () -> x.quality(0, 'a'));
        for (int i = 0; i < 41; i++) {
            x.pass(24);
        }
        x.pass(13);
        Due.is("21: 999", 999, () -> x.quality(3, 'a'));
        x.pass(1);
        Due.is("21: 1000", 1000, () -> x.quality(3, 'a'));
        x.pass(1);
        Due.is("21: at most 1000", 1000, () -> x.quality(3, 'a'));
        Due.is("21: no age of a tank", 0, () -> x.quality(0, 'a'));
        Due.is("21: chlorine of a tank", 1000, () -> x.quality(0, 'c'));
        Due.allOf("21: no such node", Due.INDEX, () -> x.quality(-1, 'a'), () -> x.quality(4, 'a'),
            () -> x.quality(4, 'x'), () -> x.quality(MOST, 'f'));
        Due.allOf("21: no such thing", Due.ARGUMENT, () -> x.quality(1, 'x'), () -> x.quality(0, 'A'),
            () -> x.quality(1, 'b'), () -> x.quality(1, (char) 0), () -> x.quality(1, (char) 65535));
    }

    private static void chlorine() {
        Valvekeeper x = line(8);
        x.pass(1);
        Due.is("21: a tenth less than that of a tank", 900, () -> x.quality(1, 'c'));
        x.broke(0, true);
        int[] due = {810, 729, 657, 592, 533, 480, 432, 389, 351, 316, 285, 257, 232, 209, 189, 171, 154};
        for (int i = 0; i < due.length; i++) {
            x.pass(1);
            Due.is("21: chlorine, what is lost rounded down, " + i, due[i], () -> x.quality(1, 'c'));
        }
        x.pass(24);
        x.pass(24);
        Due.is("21: of 9 nothing is lost", 9, () -> x.quality(1, 'c'));
        Due.is("21: the foul stays", 0, () -> x.quality(1, 'f'));
    }

    private static void foulIsMixed() {
        Valvekeeper x = new Valvekeeper();
        x.tank(100, 50, 0);
        x.tank(100, 50, 0);
        x.junction(0, 50);
        x.pipe(0, 2, 3, '-', 0, 0);
        x.pipe(2, 1, 7, '-', 0, 0);
        x.foul(0, 1000);
        x.foul(1, 1);
        x.pass(1);
        // Head 50: 15 from the one, 35 from the other: (15 * 1000 + 35 * 1) / 50 = 300.
        Due.is("21: foul by what flows in, rounded down", 300, () -> x.quality(2, 'f'));
        Due.is("21: chlorine of two tanks", 900, () -> x.quality(2, 'c'));
        x.broke(0, true);
        x.broke(1, true);
        x.foul(0, 7);
        x.pass(1);
        Due.is("21: foul stays without inflow", 300, () -> x.quality(2, 'f'));
        x.broke(1, false);
        x.pass(1);
        Due.is("21: foul of the other one alone", 1, () -> x.quality(2, 'f'));
    }

    /** 1 flows into each of two junctions in a row: all that they have is of the last inflow. */
    private static void qualityOfDrops() {
        Valvekeeper x = new Valvekeeper();
        x.tank(20, 50, 0);
        x.junction(0, 0);
        x.junction(0, 1);
        x.pipe(0, 1, 1, '-', 0, 0);
        x.pipe(1, 2, 1, '-', 0, 0);
        x.foul(0, 1000);
        x.pass(3);
        Due.is("16: one flows in", 1, () -> x.flow(0));
        Due.is("16: and on", 1, () -> x.flow(1));
        Due.is("21: foul", 1000, () -> x.quality(2, 'f'));
        x.foul(0, 0);
        x.pass(1);
        Due.is("21: foul of the last inflow alone", 0, () -> x.quality(1, 'f'));
        Due.is("21: an hour later", 1000, () -> x.quality(2, 'f'));
        x.pass(1);
        Due.is("21: at the second one too", 0, () -> x.quality(2, 'f'));
        Due.is("21: age of the last inflow alone", 1, () -> x.quality(1, 'a'));
        Due.is("21: age of the last inflow alone", 2, () -> x.quality(2, 'a'));
        Due.is("21: chlorine of the last inflow alone", 900, () -> x.quality(1, 'c'));
        Due.is("21: chlorine of the last inflow alone", 810, () -> x.quality(2, 'c'));
    }

    /** Three junctions in a row by rising numbers: each gets what the one ahead had as the hour began. */
    private static void qualityAheadOfTheHour() {
        Valvekeeper x = line(4);
        x.junction(0, 4);
        x.junction(0, 4);
        x.pipe(1, 2, 4, '-', 0, 0);
        x.pipe(3, 2, 4, '-', 0, 0);
        x.foul(0, 640);
        x.pass(1);
        Due.is("21: one hour to the first", 640, () -> x.quality(1, 'f'));
        Due.is("21: one hour to the second", 0, () -> x.quality(2, 'f'));
        x.pass(1);
        Due.is("21: two hours to the second", 640, () -> x.quality(2, 'f'));
        Due.is("21: two hours to the third", 0, () -> x.quality(3, 'f'));
        Due.is("21: chlorine of the second", 810, () -> x.quality(2, 'c'));
        x.foul(0, 10);
        x.pass(1);
        Due.is("21: three hours to the third, against its pipe", 640, () -> x.quality(3, 'f'));
        Due.is("21: what is told later comes later", 10, () -> x.quality(1, 'f'));
        Due.is("21: chlorine of the third", 729, () -> x.quality(3, 'c'));
        Due.is("21: age of the third", 3, () -> x.quality(3, 'a'));
    }

    private static void foul() {
        Valvekeeper x = line(1);
        Due.is("22: 0 at first", 0, () -> x.foul(0, 1000));
        Due.is("22: greatest", 1000, () -> x.quality(0, 'f'));
        Due.is("22: the one before", 1000, () -> x.foul(0, 12));
        x.pass(3);
        Due.is("22: it stays", 12, () -> x.foul(0, 0));
        Due.is("22: least", 0, () -> x.foul(0, 0));
        Due.allOf("22: no such node", Due.INDEX, () -> x.foul(-1, 0), () -> x.foul(2, 1001), () -> x.foul(MOST, 0));
        Due.allOf("22: no tank", Due.UNSUPPORTED, () -> x.foul(1, 0), () -> x.foul(1, -1));
        Due.allOf("22: out of range", Due.ARGUMENT, () -> x.foul(0, -1), () -> x.foul(0, 1001), () -> x.foul(0, LEAST),
            () -> x.foul(0, MOST));
        Due.is("22: a refused one is not set", 0, () -> x.quality(0, 'f'));
    }

    private static void cost() {
        Valvekeeper x = new Valvekeeper();
        x.junction(0, 0);
        x.junction(0, 0);
        x.pipe(0, 1, 1, 'p', 1, 1);
        x.pipe(0, 1, 1, 'p', 1, 0);
        x.setTariff(1, 10);
        Due.is("23: nothing at first", 0L, x::cost);
        x.pump(0, true);
        Due.is("23: nothing by turning it on", 0L, x::cost);
        x.pass(1);
        Due.is("23: there was no hour before", 6L, x::cost);
        x.pass(1);
        Due.is("23: it was on", 16L, x::cost);
        x.pump(0, false);
        x.pump(0, true);
        x.pump(1, true);
        x.pass(1);
        Due.is("23: it was on as the hour before was done; the other was off", 23L, x::cost);
        x.pump(0, false);
        x.pass(1);
        Due.is("23: one is off", 24L, x::cost);
        x.pump(0, true);
        x.broke(0, true);
        x.valve(0, false, false);
        x.pass(1);
        Due.is("23: on again, though broken and shut", 31L, x::cost);
        x.pipe(0, 1, 1, 'p', 1, 0);
        x.pump(2, true);
        x.pass(1);
        Due.is("23: a new one", 39L, x::cost);
    }

    private static void fire() {
        Valvekeeper x = line(0);
        Due.is("24: 4 * 100 / 10", 40, () -> x.fire(1));
        x.setDrought(50);
        Due.is("24: the hydrant knows no drought", 40, () -> x.fire(1));
        x.pipe(0, 1, 6, '-', 0, 0);
        Due.is("24: at most 99", 99, () -> x.fire(1));
        Valvekeeper w = new Valvekeeper();
        w.tank(140, 50, 0);
        w.junction(0, 0);
        w.pipe(0, 1, 7, '-', 0, 0);
        Due.is("24: one less than that", 98, () -> w.fire(1));
        x.junction(200, 0);
        x.pipe(1, 2, 1, '-', 0, 0);
        Due.is("24: dry without any", -1, () -> x.fire(2));
        Due.allOf("24: no such node", Due.INDEX, () -> x.fire(-1), () -> x.fire(3), () -> x.fire(MOST));
        Due.is("24: a tank", Due.UNSUPPORTED, () -> x.fire(0));
        Valvekeeper y = new Valvekeeper();
        y.junction(7, 99);
        Due.is("24: without pipes the head is the height", 99, () -> y.fire(0));
        Valvekeeper z = line(40);
        Due.is("24: none beside its own", 0, () -> z.fire(1));
        Due.is("24: dry by its own", -1, () -> line(41).fire(1));
    }

    private static void fireNextHour() {
        Valvekeeper x = line(10);
        x.setPattern(0, 200);
        x.setPattern(1, 300);
        x.setDrought(90);
        // 10 * 200 / 100 * 90 / 100 = 18 of 40.
        Due.is("24: the demand of the hour 0", 22, () -> x.fire(1));
        x.pass(1);
        Due.is("24: the demand of the hour 1", 13, () -> x.fire(1));
        x.pass(23);
        Due.is("24: the demand of the hour 24", 22, () -> x.fire(1));
        Valvekeeper y = new Valvekeeper();
        y.tank(0, 50, 0);
        y.junction(0, 0);
        y.pipe(0, 1, 1, 'p', 50, 0);
        y.rule(0, 0, 10, 10);
        Due.is("24: no rule works in it", 99, () -> y.fire(1));
        Due.is("24: no rule works in it", false, () -> y.pump(0, true));
        Due.is("24: the pump pulls", 5, () -> y.fire(1));
    }

    private static void fireBesideOthers() {
        Valvekeeper x = new Valvekeeper();
        x.tank(100, 50, 0);
        x.junction(0, 0);
        x.junction(60, 0);
        x.junction(150, 0);
        x.pipe(0, 1, 1, '-', 0, 0);
        x.pipe(1, 2, 1, '-', 0, 0);
        x.pipe(1, 3, 1, '-', 0, 0);
        x.pass(1);
        // All heads are 102 then. With 4, those of 1 and 2 are 88, 78, 72, 68, 65, 63, 62; with 5, 84, 72, 64, 59.
        Due.is("24: without it, junction 3 is dry", true, () -> x.wasDry(3));
        Due.is("24: junction 2 is not", false, () -> x.wasDry(2));
        Due.is("24: until another one would be dry", 4, () -> x.fire(1));
        x.broke(1, true);
        // Then 2 is at its height, and 1 at (100 + 50 - 150) / 2, as 3 has at least its height less 100.
        Due.is("24: that one is at its height", 15, () -> x.fire(1));
    }

    /** With 3 beside it, junction 2 has the head 33; with 4, 31; with 7 junction 3 pulls no more, and 2 has 33. */
    private static void fireForEachLesserOne() {
        Valvekeeper x = new Valvekeeper();
        x.tank(43, 50, 0);
        x.junction(46, 5);
        x.junction(32, 1);
        x.junction(37, 4);
        x.pipe(2, 0, 8, '-', 0, 0);
        x.pipe(2, 3, 9, '>', 0, 0);
        x.pass(1);
        Due.is("15: of the hydrant", 37, () -> x.head(2));
        Due.is("15: of the one behind it", 32, () -> x.head(3));
        Due.is("24: for each lesser one", 3, () -> x.fire(2));
    }

    private static void fireChangesNothing() {
        Valvekeeper x = line(8);
        Due.is("24: ahead of any hour", 32, () -> x.fire(1));
        Due.is("24: no head is found by it", 0, () -> x.head(1));
        Due.is("24: no sweep", 0, x::sweeps);
        Due.is("24: again", 32, () -> x.fire(1));
        x.pass(1);
        x.fire(1);
        Due.is("24: head", 80, () -> x.head(1));
        Due.is("24: flow", 8, () -> x.flow(0));
        Due.is("24: reading", 8, () -> x.reading(1));
        Due.is("24: used", 8L, x::used);
        Due.is("24: not dry", false, () -> x.wasDry(1));
        x.pass(1);
        Due.is("24: the hour behind it", 16L, x::used);
        Due.is("24: the sweeps behind it", 1, x::sweeps);
    }
}
