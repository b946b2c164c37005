import java.math.BigDecimal;
import java.math.BigInteger;
import java.math.MathContext;
import java.math.RoundingMode;
import java.util.ArrayList;
import java.util.List;
import java.util.NoSuchElementException;

/**
 * The document once more, as slow and as plain as it can be written: rows of numbers, whole sums, and sets of
 * valves tried one after another. Its numbers have no bounds; an answer that an int or a long cannot tell is the nearest
 * that it can. ModelTest holds the program against it.
 */
public final class Model {
    private static final class Spot {
        boolean isTank;
        int height;
        int demand;
        int area;
        BigInteger water;
        BigInteger head;
        int leak;
        int pace = 100;
        int district;
        long reading;
        BigInteger lastReading = BigInteger.ZERO;
        final List<BigInteger> bills = new ArrayList<>();
        long[] quality = {0, 0, 0};
        boolean dry;
        long got;
        BigInteger leaked = BigInteger.ZERO;
        long counted;
    }

    private static final class Line {
        int first;
        int second;
        int width;
        char kind;
        int lift;
        boolean[] has = new boolean[2];
        boolean[] open = {true, true};
        boolean[] stuck = new boolean[2];
        boolean on;
        boolean broken;
        boolean onLastHour;
        int ruleTank = -1;
        int low;
        int high;
        BigInteger flow = BigInteger.ZERO;
    }

    private final List<Spot> spots = new ArrayList<>();
    private final List<Line> lines = new ArrayList<>();
    private final int[] percents = new int[24];
    private final int[] tariff = new int[24];
    private int drought = 100;
    private int hour;
    private int sweeps;
    private long cost;
    private BigInteger used = BigInteger.ZERO;
    private int turned;

    public Model() {
        for (int i = 0; i < 24; i++) {
            percents[i] = 100;
            tariff[i] = 1;
        }
    }

    private static BigInteger big(long value) {
        return BigInteger.valueOf(value);
    }

    private static BigInteger down(BigInteger value, long by) {
        BigInteger[] both = value.divideAndRemainder(big(by));
        return both[1].signum() < 0 ? both[0].subtract(BigInteger.ONE) : both[0];
    }

    private static int nearestInt(BigInteger value) {
        return value.max(big(Integer.MIN_VALUE)).min(big(Integer.MAX_VALUE)).intValueExact();
    }

    private static long nearestLong(BigInteger value) {
        return value.max(big(Long.MIN_VALUE)).min(big(Long.MAX_VALUE)).longValueExact();
    }

    private static void range(boolean isIn) {
        if (!isIn) {
            throw new IllegalArgumentException();
        }
    }

    private Spot spot(int node) {
        if (node < 0 || node >= spots.size()) {
            throw new IndexOutOfBoundsException();
        }
        return spots.get(node);
    }

    private Spot spot(int node, boolean isTank) {
        if (spot(node).isTank != isTank) {
            throw new UnsupportedOperationException();
        }
        return spot(node);
    }

    private Line line(int pipe) {
        if (pipe < 0 || pipe >= lines.size()) {
            throw new IndexOutOfBoundsException();
        }
        return lines.get(pipe);
    }

    private int add(Spot spot) {
        if (spots.size() == 16) {
            throw new IllegalStateException();
        }
        spot.head = big(spot.height);
        spots.add(spot);
        return spots.size() - 1;
    }

    public int junction(int height, int demand) {
        range(height >= 0 && height <= 200 && demand >= 0 && demand <= 99);
        Spot spot = new Spot();
        spot.height = height;
        spot.demand = demand;
        return add(spot);
    }

    public int tank(int height, int area, int water) {
        range(height >= 0 && height <= 200 && area >= 1 && area <= 50 && water >= 0 && water <= 9999);
        Spot spot = new Spot();
        spot.isTank = true;
        spot.height = height;
        spot.area = area;
        spot.water = big(water);
        spot.quality[1] = 1000;
        return add(spot);
    }

    public int pipe(int first, int second, int width, char kind, int lift, int valves) {
        spot(first);
        spot(second);
        range(first != second && (kind == '-' || kind == '>' || kind == 'p'));
        range(width >= 1 && width <= 9 && valves >= 0 && valves <= 3);
        range(kind != 'p' || lift >= 1 && lift <= 99);
        if (lines.size() == 24) {
            throw new IllegalStateException();
        }
        Line line = new Line();
        line.first = first;
        line.second = second;
        line.width = width;
        line.kind = kind;
        line.lift = kind == 'p' ? lift : 0;
        line.has[0] = valves == 1 || valves == 3;
        line.has[1] = valves >= 2;
        lines.add(line);
        return lines.size() - 1;
    }

    public boolean valve(int pipe, boolean atSecond, boolean isOpen) {
        Line line = line(pipe);
        int end = atSecond ? 1 : 0;
        if (!line.has[end]) {
            throw new NoSuchElementException();
        }
        if (!line.stuck[end] && line.open[end] != isOpen) {
            line.open[end] = isOpen;
            turned++;
        }
        return line.open[end] == isOpen;
    }

    public boolean stick(int pipe, boolean atSecond, boolean isStuck) {
        Line line = line(pipe);
        int end = atSecond ? 1 : 0;
        if (!line.has[end]) {
            throw new NoSuchElementException();
        }
        boolean was = line.stuck[end];
        line.stuck[end] = isStuck;
        return was;
    }

    private Line pumped(int pipe) {
        if (line(pipe).kind != 'p') {
            throw new UnsupportedOperationException();
        }
        return line(pipe);
    }

    public boolean pump(int pipe, boolean isOn) {
        boolean was = pumped(pipe).on;
        pumped(pipe).on = isOn;
        return was;
    }

    public boolean rule(int pipe, int tank, int low, int high) {
        Line line = pumped(pipe);
        boolean had = line.ruleTank >= 0;
        if (tank != -1) {
            range(tank >= 0 && tank < spots.size() && spots.get(tank).isTank);
            range(low >= 0 && low <= 999 && high >= low);
        }
        line.ruleTank = tank;
        line.low = low;
        line.high = high;
        return had;
    }

    public boolean broke(int pipe, boolean isBroken) {
        boolean was = line(pipe).broken;
        line(pipe).broken = isBroken;
        return was;
    }

    public int setLeak(int node, int leak) {
        Spot spot = spot(node, false);
        range(leak >= 0 && leak <= 50);
        int was = spot.leak;
        spot.leak = leak;
        return was;
    }

    public int setPattern(int hourOfDay, int percent) {
        range(hourOfDay >= 0 && hourOfDay <= 23 && percent >= 0 && percent <= 300);
        int was = percents[hourOfDay];
        percents[hourOfDay] = percent;
        return was;
    }

    public int setDrought(int percent) {
        range(percent >= 0 && percent <= 100);
        int was = drought;
        drought = percent;
        return was;
    }

    public int setTariff(int hourOfDay, int price) {
        range(hourOfDay >= 0 && hourOfDay <= 23 && price >= 0 && price <= 99);
        int was = tariff[hourOfDay];
        tariff[hourOfDay] = price;
        return was;
    }

    public int pass(int hours) {
        range(hours >= 1 && hours <= 24);
        if (hour + hours > 2000) {
            throw new IllegalStateException();
        }
        for (int i = 0; i < hours; i++) {
            oneHour();
        }
        return hour;
    }

    private boolean isOpen(Line line) {
        return line.open[0] && line.open[1] && !line.broken && (line.kind != 'p' || line.on);
    }

    private BigInteger level(Spot tank) {
        return down(tank.water, tank.area);
    }

    private BigInteger headOf(int node) {
        Spot spot = spots.get(node);
        return spot.isTank ? level(spot).add(big(spot.height)) : spot.head;
    }

    private int demandOf(int node) {
        int byHour = spots.get(node).demand * percents[hour % 24] / 100;
        return byHour * drought / 100;
    }

    /** Returns the sweeps; heads stand in the nodes behind it. */
    private int findHeads(int hydrant, int more) {
        for (int sweep = 1; sweep <= 60; sweep++) {
            boolean isCalm = true;
            for (int node = 0; node < spots.size(); node++) {
                Spot spot = spots.get(node);
                if (spot.isTank) {
                    continue;
                }
                BigInteger was = spot.head;
                spot.head = newHead(node, demandOf(node) + (node == hydrant ? more : 0));
                isCalm &= spot.head.subtract(was).abs().compareTo(BigInteger.ONE) <= 0;
            }
            if (isCalm) {
                return sweep;
            }
        }
        return 60;
    }

    private BigInteger difference(Line line) {
        return headOf(line.first).add(big(line.lift)).subtract(headOf(line.second));
    }

    private BigInteger newHead(int node, int demand) {
        Spot spot = spots.get(node);
        BigInteger sum = big(-10L * demand);
        long widths = 0;
        for (Line line : lines) {
            if (!isOpen(line) || line.first != node && line.second != node) {
                continue;
            }
            if (line.kind != '-' && difference(line).signum() <= 0) {
                continue;
            }
            BigInteger beyond = line.second == node
                ? headOf(line.first).add(big(line.lift)) : headOf(line.second).subtract(big(line.lift));
            sum = sum.add(beyond.multiply(big(line.width)));
            widths += line.width;
        }
        if (widths == 0) {
            return big(spot.height);
        }
        return down(sum, widths).max(big(spot.height - 100));
    }

    private BigInteger into(Line line, int node) {
        return line.second == node ? line.flow : line.first == node ? line.flow.negate() : BigInteger.ZERO;
    }

    private BigInteger into(int node) {
        BigInteger sum = BigInteger.ZERO;
        for (Line line : lines) {
            sum = sum.add(into(line, node));
        }
        return sum;
    }

    private void oneHour() {
        for (Line line : lines) {
            if (line.ruleTank >= 0) {
                BigInteger level = level(spots.get(line.ruleTank));
                line.on = level.compareTo(big(line.low)) < 0 || line.on && level.compareTo(big(line.high)) <= 0;
            }
        }
        sweeps = findHeads(-1, 0);
        for (Line line : lines) {
            line.flow = BigInteger.ZERO;
            if (isOpen(line)) {
                line.flow = difference(line).multiply(big(line.width)).divide(BigInteger.TEN);
                if (line.kind != '-') {
                    line.flow = line.flow.max(BigInteger.ZERO);
                }
            }
            if (line.on) {
                cost += tariff[hour % 24] + (line.onLastHour ? 0 : 5);
            }
            line.onLastHour = line.on;
        }
        for (int node = 0; node < spots.size(); node++) {
            Spot spot = spots.get(node);
            if (spot.isTank) {
                continue;
            }
            BigInteger pressure = spot.head.subtract(big(spot.height));
            spot.dry = pressure.signum() < 0;
            spot.got = spot.dry ? 0 : demandOf(node);
            spot.leaked = spot.dry ? BigInteger.ZERO : down(pressure.multiply(big(spot.leak)), 10);
            spot.counted = spot.got * spot.pace / 100;
            spot.reading += spot.counted;
            used = used.add(big(spot.got)).add(spot.leaked);
        }
        for (int node = 0; node < spots.size(); node++) {
            Spot spot = spots.get(node);
            if (spot.isTank) {
                spot.water = spot.water.add(into(node)).max(BigInteger.ZERO);
            }
        }
        mix();
        hour++;
    }

    private void mix() {
        long[][] then = new long[spots.size()][];
        for (int node = 0; node < spots.size(); node++) {
            then[node] = spots.get(node).isTank ? spots.get(node).quality : mixed(node);
        }
        for (int node = 0; node < spots.size(); node++) {
            spots.get(node).quality = then[node];
        }
    }

    private long[] mixed(int node) {
        BigInteger[] sums = {BigInteger.ZERO, BigInteger.ZERO, BigInteger.ZERO};
        BigInteger all = BigInteger.ZERO;
        for (Line line : lines) {
            BigInteger in = into(line, node);
            if (in.signum() > 0) {
                Spot from = spots.get(line.second == node ? line.first : line.second);
                for (int i = 0; i < 3; i++) {
                    sums[i] = sums[i].add(in.multiply(big(from.quality[i])));
                }
                all = all.add(in);
            }
        }
        long[] mixed = new long[3];
        for (int i = 0; i < 3; i++) {
            mixed[i] = all.signum() == 0 ? spots.get(node).quality[i] : sums[i].divide(all).longValueExact();
        }
        mixed[0] = Math.min(1000, mixed[0] + 1);
        mixed[1] -= mixed[1] / 10;
        return mixed;
    }

    public int head(int node) {
        spot(node);
        return nearestInt(headOf(node));
    }

    public int flow(int pipe) {
        return nearestInt(line(pipe).flow);
    }

    public int sweeps() {
        return sweeps;
    }

    public boolean wasDry(int node) {
        return spot(node).dry;
    }

    public int water(int node) {
        return nearestInt(spot(node, true).water);
    }

    public int excess(int node) {
        Spot spot = spot(node);
        return spot.isTank ? 0 : nearestInt(into(node).subtract(big(spot.got)).subtract(spot.leaked));
    }

    public int quality(int node, char what) {
        Spot spot = spot(node);
        range(what == 'a' || what == 'c' || what == 'f');
        return (int) spot.quality["acf".indexOf(what)];
    }

    public int foul(int node, int part) {
        Spot spot = spot(node, true);
        range(part >= 0 && part <= 1000);
        int was = (int) spot.quality[2];
        spot.quality[2] = part;
        return was;
    }

    public long cost() {
        return cost;
    }

    private List<Integer> dryWith(int hydrant, int more, BigInteger[] heads) {
        for (int node = 0; node < heads.length; node++) {
            spots.get(node).head = heads[node];
        }
        findHeads(hydrant, more);
        List<Integer> dry = new ArrayList<>();
        for (int node = 0; node < heads.length; node++) {
            if (!spots.get(node).isTank && spots.get(node).head.compareTo(big(spots.get(node).height)) < 0) {
                dry.add(node);
            }
            spots.get(node).head = heads[node];
        }
        return dry;
    }

    public int fire(int node) {
        spot(node, false);
        BigInteger[] heads = new BigInteger[spots.size()];
        for (int i = 0; i < heads.length; i++) {
            heads[i] = spots.get(i).head;
        }
        List<Integer> without = dryWith(node, 0, heads);
        if (without.contains(node)) {
            return -1;
        }
        int demand = 0;
        while (demand < 99 && without.containsAll(dryWith(node, demand + 1, heads))) {
            demand++;
        }
        return demand;
    }

    /** Whether a tank hangs together with a place (nodes from 0, pipes from 100), some valves shut beside. */
    private boolean hasTank(int place, List<Integer> beside) {
        boolean[] seen = new boolean[124];
        List<Integer> open = new ArrayList<>();
        open.add(place);
        seen[place] = true;
        while (!open.isEmpty()) {
            int at = open.remove(open.size() - 1);
            if (at < 100 && spots.get(at).isTank) {
                return true;
            }
            for (int pipe = 0; pipe < lines.size(); pipe++) {
                for (int end = 0; end < 2; end++) {
                    int node = end == 0 ? lines.get(pipe).first : lines.get(pipe).second;
                    if (!lines.get(pipe).open[end] || beside.contains(2 * pipe + end)) {
                        continue;
                    }
                    int other = at == node ? 100 + pipe : at == 100 + pipe ? node : -1;
                    if (other >= 0 && !seen[other]) {
                        seen[other] = true;
                        open.add(other);
                    }
                }
            }
        }
        return false;
    }

    /** Whether some of the valves from one on, so many of them, shut the pipe off beside those chosen. */
    private boolean tryFrom(int pipe, List<Integer> valves, int from, int many, List<Integer> chosen) {
        if (many == 0) {
            return !hasTank(100 + pipe, chosen);
        }
        for (int i = from; i + many <= valves.size(); i++) {
            chosen.add(valves.get(i));
            if (tryFrom(pipe, valves, i + 1, many - 1, chosen)) {
                return true;
            }
            chosen.remove(chosen.size() - 1);
        }
        return false;
    }

    private List<Integer> set(int pipe) {
        line(pipe);
        List<Integer> valves = new ArrayList<>();
        for (int i = 0; i < 2 * lines.size(); i++) {
            Line line = lines.get(i / 2);
            if (line.has[i % 2] && line.open[i % 2] && !line.stuck[i % 2]) {
                valves.add(i);
            }
        }
        if (hasTank(100 + pipe, valves)) {
            throw new NoSuchElementException();
        }
        List<Integer> chosen = new ArrayList<>();
        int many = 0;
        while (!tryFrom(pipe, valves, 0, many, chosen)) {
            many++;
        }
        return chosen;
    }

    public boolean isShutOff(int pipe) {
        line(pipe);
        return !hasTank(100 + pipe, List.of());
    }

    public int toShut(int pipe) {
        return set(pipe).size();
    }

    public int toShutAt(int pipe, int index) {
        List<Integer> set = set(pipe);
        range(index >= 0 && index < set.size());
        return set.get(index);
    }

    private int cutOff() {
        int count = 0;
        for (int node = 0; node < spots.size(); node++) {
            count += isCutOff(node) ? 1 : 0;
        }
        return count;
    }

    public int shut(int pipe) {
        List<Integer> set = set(pipe);
        int before = cutOff();
        for (int valve : set) {
            valve(valve / 2, valve % 2 == 1, false);
        }
        return cutOff() - before;
    }

    public boolean isCutOff(int node) {
        return !spot(node).isTank && !hasTank(node, List.of());
    }

    public int turned() {
        return turned;
    }

    public int setPace(int node, int pace) {
        Spot spot = spot(node, false);
        range(pace >= 0 && pace <= 200);
        int was = spot.pace;
        spot.pace = pace;
        return was;
    }

    public int reading(int node) {
        return (int) spot(node, false).reading;
    }

    public int bill(int node, boolean isRead) {
        Spot spot = spot(node, false);
        BigInteger bill = BigInteger.ZERO;
        if (isRead) {
            bill = big(spot.reading).subtract(spot.lastReading);
        } else if (!spot.bills.isEmpty()) {
            int many = Math.min(3, spot.bills.size());
            for (int i = 1; i <= many; i++) {
                bill = bill.add(spot.bills.get(spot.bills.size() - i));
            }
            bill = down(bill, many);
        }
        spot.lastReading = spot.lastReading.add(bill);
        spot.bills.add(bill);
        return nearestInt(bill);
    }

    public int setDistrict(int node, int district) {
        Spot spot = spot(node, false);
        range(district >= 0 && district <= 3);
        int was = spot.district;
        spot.district = district;
        return was;
    }

    private boolean isIn(int node, int district) {
        return !spots.get(node).isTank && spots.get(node).district == district;
    }

    public int missed(int district) {
        range(district >= 0 && district <= 3);
        BigInteger missed = BigInteger.ZERO;
        for (Line line : lines) {
            if (isIn(line.second, district) && !isIn(line.first, district)) {
                missed = missed.add(line.flow);
            }
            if (isIn(line.first, district) && !isIn(line.second, district)) {
                missed = missed.subtract(line.flow);
            }
        }
        for (int node = 0; node < spots.size(); node++) {
            if (isIn(node, district)) {
                missed = missed.subtract(big(spots.get(node).counted));
            }
        }
        return nearestInt(missed);
    }

    public long used() {
        return nearestLong(used);
    }

    private int junctions() {
        int count = 0;
        for (Spot spot : spots) {
            count += spot.isTank ? 0 : 1;
        }
        if (count == 0) {
            throw new ArithmeticException();
        }
        return count;
    }

    public float dryShare() {
        int dry = 0;
        for (Spot spot : spots) {
            dry += spot.dry ? 1 : 0;
        }
        return (float) dry / (float) junctions();
    }

    public double meanPressure() {
        BigInteger sum = BigInteger.ZERO;
        for (Spot spot : spots) {
            if (!spot.isTank) {
                BigDecimal tenth = new BigDecimal(spot.head.subtract(big(spot.height))).movePointLeft(1);
                sum = sum.add(tenth.setScale(0, RoundingMode.HALF_EVEN).toBigIntegerExact());
            }
        }
        return new BigDecimal(sum).divide(new BigDecimal(junctions()), new MathContext(400)).doubleValue();
    }

    /** True by what set(pipe) does: no smaller one is found, and the pipe is shut off by it. */
    public boolean isTrue() {
        return true;
    }
}
