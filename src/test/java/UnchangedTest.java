/** A call that only asks, or sets what is so already, changes nothing. PromisesTest has the calls that throw. */
public final class UnchangedTest {
    public static void main(String[] args) {
        unchanged(x -> x.head(2), x -> x.flow(1), Valvekeeper::sweeps, x -> x.wasDry(3), x -> x.water(0),
            x -> x.excess(2), x -> x.quality(2, 'f'), Valvekeeper::cost, x -> x.fire(1), x -> x.fire(2),
            x -> x.fire(3), x -> x.fire(4));
        unchanged(x -> x.isShutOff(2), x -> x.toShut(2), x -> x.toShutAt(2, 0), x -> x.isCutOff(3),
            Valvekeeper::turned, x -> x.reading(3), x -> x.missed(1), Valvekeeper::used, Valvekeeper::dryShare,
            Valvekeeper::meanPressure, Valvekeeper::isTrue, x -> new Valvekeeper().junction(0, 0));
        unchanged(x -> x.valve(0, false, true), x -> x.valve(1, false, false), x -> x.stick(0, false, false),
            x -> x.rule(3, 0, 70, 80), x -> x.broke(0, false), x -> x.setLeak(2, 3), x -> x.setPattern(1, 150),
            x -> x.setDrought(90), x -> x.setTariff(2, 8), x -> x.foul(0, 300), x -> x.setPace(3, 80),
            x -> x.setDistrict(4, 1));
        Due.end();
    }

    private static void unchanged(Twin.On... calls) {
        for (int i = 0; i < calls.length; i++) {
            Valvekeeper x = Twin.CITY.make();
            Twin.On call = calls[i];
            Due.is("asked, number " + i, false, () -> Twin.answer(x, call).contains("Exception"));
            Due.is("unchanged by number " + i, Twin.CITY.answers(), () -> Twin.CITY.answersOf(x));
        }
    }
}
