/** Promises 31 to 38: meters, bills, districts, and means. */
public final class MetersTest {
    private static final int LEAST = Integer.MIN_VALUE;
    private static final int MOST = Integer.MAX_VALUE;

    public static void main(String[] args) {
        setPace();
        paceRoundsEachHour();
        reading();
        billByReading();
        billByGuess();
        guessesRoundDown();
        guessOfThree();
        setDistrict();
        missed();
        missedOfTanks();
        used();
        dryShare();
        meanPressure();
        meanPressureOfHalves();
        Due.end();
    }

    private static Valvekeeper alone(int demand) {
        Valvekeeper x = new Valvekeeper();
        x.junction(0, demand);
        x.tank(0, 1, 0);
        return x;
    }

    private static void setPace() {
        Valvekeeper x = alone(10);
        Due.is("31: 100 at first", 100, () -> x.setPace(0, 50));
        x.pass(1);
        Due.is("31: half as fast", 5, () -> x.reading(0));
        Due.is("31: the one before", 50, () -> x.setPace(0, 0));
        x.pass(1);
        Due.is("31: it stands", 5, () -> x.reading(0));
        Due.is("31: least", 0, () -> x.setPace(0, 200));
        x.pass(1);
        Due.is("31: twice as fast", 25, () -> x.reading(0));
        Due.is("31: greatest", 200, () -> x.setPace(0, 1));
        x.pass(1);
        Due.is("31: too slow to count", 25, () -> x.reading(0));
        Due.is("31: what is got does not depend on it", 40L, x::used);
        Due.allOf("31: no such node", Due.INDEX, () -> x.setPace(-1, 0), () -> x.setPace(2, 201), () -> x.setPace(MOST, 0));
        Due.allOf("31: a tank", Due.UNSUPPORTED, () -> x.setPace(1, 0), () -> x.setPace(1, -1));
        Due.allOf("31: out of range", Due.ARGUMENT, () -> x.setPace(0, -1), () -> x.setPace(0, 201),
            () -> x.setPace(0, LEAST), () -> x.setPace(0, MOST));
        Due.is("31: a refused one is not set", 1, () -> x.setPace(0, 100));
    }

    private static void paceRoundsEachHour() {
        Valvekeeper x = alone(3);
        x.setPace(0, 150);
        x.pass(2);
        Due.is("32: 4 of 4.5 in each hour", 8, () -> x.reading(0));
        x.setPace(0, 199);
        x.pass(1);
        Due.is("32: 5 of 5.97", 13, () -> x.reading(0));
    }

    private static void reading() {
        Valvekeeper x = alone(7);
        Due.is("32: 0 at first", 0, () -> x.reading(0));
        x.setLeak(0, 50);
        x.pass(2);
        Due.is("32: what is got", 14, () -> x.reading(0));
        x.bill(0, true);
        x.bill(0, false);
        Due.is("32: bills do not change it", 14, () -> x.reading(0));
        Due.allOf("32: no such node", Due.INDEX, () -> x.reading(-1), () -> x.reading(2), () -> x.reading(MOST));
        Due.is("32: a tank", Due.UNSUPPORTED, () -> x.reading(1));
        Valvekeeper y = new Valvekeeper();
        y.tank(100, 50, 0);
        y.junction(0, 8);
        y.pipe(0, 1, 4, '-', 0, 0);
        y.setLeak(1, 5);
        y.pass(1);
        Due.is("32: no leak is counted", 8, () -> y.reading(1));
        Due.is("36: but used", 48L, y::used);
    }

    private static void billByReading() {
        Valvekeeper x = alone(7);
        Due.is("33: nothing yet", 0, () -> x.bill(0, true));
        x.pass(2);
        Due.is("33: by the reading", 14, () -> x.bill(0, true));
        Due.is("33: nothing since", 0, () -> x.bill(0, true));
        x.pass(3);
        Due.is("33: since the last bill", 21, () -> x.bill(0, true));
        Due.allOf("33: no such node", Due.INDEX, () -> x.bill(-1, true), () -> x.bill(2, false), () -> x.bill(MOST, true));
        Due.is("33: a tank", Due.UNSUPPORTED, () -> x.bill(1, true));
        Due.is("33: a tank", Due.UNSUPPORTED, () -> x.bill(1, false));
    }

    private static void billByGuess() {
        Valvekeeper x = alone(10);
        x.pass(1);
        Due.is("33: a guess without bills", 0, () -> x.bill(0, false));
        Due.is("33: the reading was 0 by that", 10, () -> x.bill(0, true));
        x.pass(1);
        Due.is("33: the mean of 0 and 10", 5, () -> x.bill(0, false));
        Due.is("33: the reading was 15 by that", 5, () -> x.bill(0, true));
        Due.is("33: the mean of 10, 5 and 5", 6, () -> x.bill(0, false));
        Due.is("33: the mean of 5, 5 and 6", 5, () -> x.bill(0, false));
        Due.is("33: guesses were 11 too great", -11, () -> x.bill(0, true));
        Due.is("33: nothing since", 0, () -> x.bill(0, true));
    }

    private static void guessesRoundDown() {
        Valvekeeper x = alone(1);
        x.pass(1);
        Due.is("33: 1", 1, () -> x.bill(0, true));
        Due.is("33: guess 1", 1, () -> x.bill(0, false));
        Due.is("33: guess 1", 1, () -> x.bill(0, false));
        Due.is("33: guess 1", 1, () -> x.bill(0, false));
        Due.is("33: -3", -3, () -> x.bill(0, true));
        Due.is("33: the mean of 1, 1 and -3, rounded down below 0", -1, () -> x.bill(0, false));
        Due.is("33: the mean of 1, -3 and -1", -1, () -> x.bill(0, false));
        Due.is("33: the mean of -3, -1 and -1, rounded down below 0", -2, () -> x.bill(0, false));
        Due.is("33: the mean of -1, -1 and -2, rounded down below 0", -2, () -> x.bill(0, false));
        Due.is("33: all that was too little", 6, () -> x.bill(0, true));
    }

    private static void guessOfThree() {
        Valvekeeper x = alone(1);
        int[] hours = {20, 8, 5, 2};
        for (int i = 0; i < hours.length; i++) {
            int hour = hours[i];
            x.pass(hour);
            Due.is("33: bill " + i, hour, () -> x.bill(0, true));
        }
        Due.is("33: of the last three alone", 5, () -> x.bill(0, false));
        Due.is("33: a guess is a bill, too", 4, () -> x.bill(0, false));
        Valvekeeper y = alone(1);
        y.pass(9);
        y.bill(0, true);
        Due.is("33: the mean of one", 9, () -> y.bill(0, false));
        Valvekeeper z = alone(1);
        z.pass(9);
        z.bill(0, true);
        z.bill(0, true);
        Due.is("33: the mean of two", 4, () -> z.bill(0, false));
        Due.is("33: one junction beside another", 1, () -> z.junction(0, 1) - 1);
        Due.is("33: each has bills of its own", 0, () -> z.bill(2, false));
    }

    private static void setDistrict() {
        Valvekeeper x = alone(1);
        Due.is("34: 0 at first", 0, () -> x.setDistrict(0, 3));
        Due.is("34: greatest", 3, () -> x.setDistrict(0, 1));
        Due.is("34: the one before", 1, () -> x.setDistrict(0, 0));
        Due.is("34: least", 0, () -> x.setDistrict(0, 0));
        Due.allOf("34: no such node", Due.INDEX, () -> x.setDistrict(-1, 0), () -> x.setDistrict(2, 4),
            () -> x.setDistrict(MOST, 0));
        Due.allOf("34: a tank", Due.UNSUPPORTED, () -> x.setDistrict(1, 0), () -> x.setDistrict(1, 4));
        Due.allOf("34: out of range", Due.ARGUMENT, () -> x.setDistrict(0, -1), () -> x.setDistrict(0, 4),
            () -> x.setDistrict(0, LEAST), () -> x.setDistrict(0, MOST));
        Due.is("34: a refused one is not set", 0, () -> x.setDistrict(0, 0));
    }

    /** Tank, two junctions of one district and one of another, in a row: 36, 28 and 18 flow. */
    private static void missed() {
        Valvekeeper x = new Valvekeeper();
        x.tank(120, 50, 0);
        for (int node = 1; node <= 3; node++) {
            x.junction(0, 10);
            x.pipe(node - 1, node, 9, '-', 0, 0);
        }
        Due.allOf("35: nothing at first", 0, () -> x.missed(0), () -> x.missed(1), () -> x.missed(2), () -> x.missed(3));
        x.setLeak(2, 5);
        x.setPace(3, 50);
        x.pass(3);
        int first = x.flow(0);
        int second = x.flow(1);
        int third = x.flow(2);
        Due.is("35: all in one district", first - 25, () -> x.missed(0));
        Due.is("35: it is as told", true, () -> first > 20 && second > 10 && third > 0);
        x.setDistrict(3, 2);
        Due.is("35: by districts as they are now", first - third - 20, () -> x.missed(0));
        Due.is("35: what comes from another district", third - 5, () -> x.missed(2));
        x.setDistrict(2, 2);
        Due.is("35: by districts as they are now", first - second - 10, () -> x.missed(0));
        Due.is("35: what flows within it does not count", second - 15, () -> x.missed(2));
        Due.is("35: no junction in it", 0, () -> x.missed(3));
        x.setPace(3, 100);
        Due.is("35: what was counted in the last hour", second - 15, () -> x.missed(2));
        x.bill(3, true);
        Due.is("35: bills do not matter", second - 15, () -> x.missed(2));
        Due.allOf("35: out of range", Due.ARGUMENT, () -> x.missed(-1), () -> x.missed(4), () -> x.missed(LEAST),
            () -> x.missed(MOST));
    }

    private static void missedOfTanks() {
        Valvekeeper x = new Valvekeeper();
        x.tank(100, 50, 0);
        x.junction(0, 0);
        x.tank(0, 50, 0);
        x.pipe(1, 0, 2, '-', 0, 0);
        x.pipe(1, 2, 2, '-', 0, 0);
        x.setDistrict(1, 3);
        x.pass(1);
        Due.is("16: in against its pipe", -10, () -> x.flow(0));
        Due.is("16: out", 10, () -> x.flow(1));
        Due.is("35: in from a tank, out into another one", 0, () -> x.missed(3));
        Due.is("35: no district of tanks", 0, () -> x.missed(0));
    }

    private static void used() {
        Valvekeeper x = alone(7);
        Due.is("36: nothing at first", 0L, x::used);
        x.pass(2);
        Due.is("36: what was got", 14L, x::used);
        x.setPace(0, 0);
        x.pass(1);
        Due.is("36: whatever the meter counts", 21L, x::used);
        Valvekeeper y = new Valvekeeper();
        y.tank(100, 50, 0);
        y.junction(0, 8);
        y.junction(150, 99);
        y.pipe(0, 1, 4, '-', 0, 0);
        y.pipe(0, 2, 4, '-', 0, 0);
        y.setLeak(1, 3);
        y.setLeak(2, 50);
        y.pass(2);
        // Pressure 80: 3 * 80 / 10 are leaked; the other one is dry.
        Due.is("36: what was got and leaked", 64L, y::used);
        y.setLeak(1, 1);
        y.setDrought(11);
        y.pass(1);
        // No demand is left, so the pressure is 100, and 10 are leaked.
        Due.is("36: what was leaked", 74L, y::used);
        y.setDrought(99);
        y.pass(1);
        // 7 are left of the demand, so the pressure is 330 / 4 = 82, and 8 of 8.2 are leaked.
        Due.is("36: a leak is rounded down", 89L, y::used);
    }

    private static void dryShare() {
        Valvekeeper x = new Valvekeeper();
        Due.is("37: no junctions", Due.ARITHMETIC, x::dryShare);
        x.tank(50, 50, 0);
        Due.is("37: a tank is none", Due.ARITHMETIC, x::dryShare);
        x.junction(60, 0);
        x.pipe(0, 1, 1, '-', 0, 0);
        Due.is("37: ahead of an hour", 0.0f, x::dryShare);
        x.pass(1);
        Due.is("37: one of one", 1.0f, x::dryShare);
        x.junction(40, 0);
        Due.is("37: one of two, one of them new", 0.5f, x::dryShare);
        x.junction(51, 0);
        x.pipe(0, 2, 1, '-', 0, 0);
        x.pipe(0, 3, 1, '-', 0, 0);
        x.pass(1);
        Due.is("37: two of three", 2f / 3f, x::dryShare);
        x.broke(0, true);
        Due.is("37: of the last hour", 2f / 3f, x::dryShare);
        x.pass(1);
        Due.is("37: one of three", 1f / 3f, x::dryShare);
    }

    private static void meanPressure() {
        Valvekeeper x = new Valvekeeper();
        Due.is("38: no junctions", Due.ARITHMETIC, x::meanPressure);
        x.tank(100, 50, 0);
        Due.is("38: a tank is none", Due.ARITHMETIC, x::meanPressure);
        x.junction(16, 0);
        Due.is("38: 0 at first", 0.0, x::meanPressure);
        x.pipe(0, 1, 1, '-', 0, 0);
        x.pass(1);
        Due.is("38: 84 is 8", 8.0, x::meanPressure);
        x.junction(14, 0);
        x.junction(130, 0);
        x.pipe(0, 2, 1, '-', 0, 0);
        x.pipe(0, 3, 1, '-', 0, 0);
        x.pass(1);
        Due.is("38: 84 is 8, 86 is 9, -30 is -3", 14.0 / 3.0, x::meanPressure);
    }

    /** Pressures that end with a 5 go to the even neighbour, below 0 too; 4 and 6 to the nearest one. */
    private static void meanPressureOfHalves() {
        int[] pressures = {5, 15, 25, 35, -5, -15, -25, -35, 4, 6, -4, -6, -14, -16, 0, 10, -10, 1, -1, 9, -9};
        int[] tens = {0, 2, 2, 4, 0, -2, -2, -4, 0, 1, 0, -1, -1, -2, 0, 1, -1, 0, 0, 1, -1};
        for (int i = 0; i < pressures.length; i++) {
            Valvekeeper x = new Valvekeeper();
            x.tank(100, 50, 0);
            x.junction(100 - pressures[i], 0);
            x.junction(50, 0);
            x.pipe(0, 1, 1, '-', 0, 0);
            x.pipe(0, 2, 1, '-', 0, 0);
            x.pass(1);
            Due.is("38: pressure " + pressures[i], (tens[i] + 5) / 2.0, x::meanPressure);
        }
    }
}
