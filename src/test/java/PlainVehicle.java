import java.util.ArrayList;
import java.util.Arrays;
import java.util.Comparator;
import java.util.HashMap;
import java.util.List;
import java.util.Map;
import java.util.NoSuchElementException;
import java.util.TreeMap;

/**
 * The document told a second time, as plainly as can be: everything is tried, nothing is kept but
 * the ways. RandomRunsTest holds the class against it.
 */
public final class PlainVehicle {
    private record Rule(int one, int other, char kind) { }

    private record Branch(int one, int other, int length, boolean wet, int bears) { }

    record Way(int length, List<Integer> points, List<Integer> branches) { }

    private static final class Circuit {
        List<Integer> ends;
        int size;
        int amperes;
        boolean dry;
        int all;
        int none;
    }

    private record Connector(int point, int cavities, int most, boolean sealed) { }

    private record Order(int choice, int chassis) { }

    private record Wire(int size, int length) { }

    private record Change(int circuit, int chassis, int size) { }

    private record Seats(Map<List<Integer>, Integer> taken, int loose) { }

    private int options;
    private final List<Rule> rules = new ArrayList<>();
    private int points;
    private final List<Branch> branches = new ArrayList<>();
    private final Map<List<Object>, Way> ways = new HashMap<>();
    private final List<Circuit> circuits = new ArrayList<>();
    private final List<Connector> connectors = new ArrayList<>();
    private final List<Integer> modules = new ArrayList<>();
    private final List<Order> orders = new ArrayList<>();
    private final Map<Wire, Integer> stock = new HashMap<>();
    private final List<Integer> opens = new ArrayList<>();
    private final List<List<Integer>> shorts = new ArrayList<>();
    private final List<Change> changes = new ArrayList<>();
    private int limit = 9999;
    private int chassis;

    // Checks

    private static void index(boolean holds) {
        if (!holds) {
            throw new IndexOutOfBoundsException();
        }
    }

    private static void argument(boolean holds) {
        if (!holds) {
            throw new IllegalArgumentException();
        }
    }

    private static void state(boolean holds) {
        if (!holds) {
            throw new IllegalStateException();
        }
    }

    private static void element(boolean holds) {
        if (!holds) {
            throw new NoSuchElementException();
        }
    }

    private static boolean isIn(int number, int least, int greatest) {
        return least <= number && number <= greatest;
    }

    private boolean isOption(int option) {
        return isIn(option, 0, options - 1);
    }

    private boolean isSetOfOptions(int set) {
        for (int i = 0; i < 32; i++) {
            if ((set >>> i & 1) == 1 && i >= options) {
                return false;
            }
        }
        return true;
    }

    private boolean isPoint(int point) {
        return isIn(point, 0, points - 1);
    }

    private boolean isCircuit(int circuit) {
        return isIn(circuit, 0, circuits.size() - 1);
    }

    // Options

    public int option() {
        state(options < 8);
        return options++;
    }

    public int rule(int one, int other, char kind) {
        index(isOption(one) && isOption(other));
        argument(one != other && (kind == 'x' || kind == 'f'));
        state(rules.size() < 12);
        rules.add(new Rule(one, other, kind));
        return rules.size();
    }

    private boolean allRulesHold(int choice) {
        for (Rule rule : rules) {
            boolean one = (choice >> rule.one & 1) == 1;
            boolean other = (choice >> rule.other & 1) == 1;
            if (rule.kind == 'x' ? one && other : one && !other) {
                return false;
            }
        }
        return true;
    }

    public boolean isBuildable(int choice) {
        argument(isSetOfOptions(choice));
        return allRulesHold(choice);
    }

    private int choices() {
        int choices = 1;
        for (int i = 0; i < options; i++) {
            choices *= 2;
        }
        return choices;
    }

    public int buildable() {
        int many = 0;
        for (int choice = 0; choice < choices(); choice++) {
            many += allRulesHold(choice) ? 1 : 0;
        }
        return many;
    }

    // Branches

    public int point() {
        state(points < 10);
        return points++;
    }

    public int branch(int one, int other, int length, boolean isWet, int bears) {
        index(isPoint(one) && isPoint(other));
        argument(one != other && isIn(length, 1, 99) && isIn(bears, 1, 99));
        state(branches.size() < 16);
        branches.add(new Branch(one, other, length, isWet, bears));
        ways.clear();
        return branches.size() - 1;
    }

    private static int compareLists(List<Integer> one, List<Integer> other) {
        for (int i = 0; i < one.size(); i++) {
            if (!one.get(i).equals(other.get(i))) {
                return one.get(i) - other.get(i);
            }
        }
        return 0;
    }

    private static final Comparator<Way> BY_LEAST = Comparator.comparingInt(Way::length)
            .thenComparingInt(way -> way.branches.size())
            .thenComparing(Way::points, PlainVehicle::compareLists)
            .thenComparing(Way::branches, PlainVehicle::compareLists);

    /** Tries all ways from a point at once, and keeps the least one to each. */
    private void tryAll(int from, boolean isDry, Way way) {
        int at = way.points.get(way.points.size() - 1);
        ways.merge(List.of(from, at, isDry), way, (a, b) -> BY_LEAST.compare(a, b) <= 0 ? a : b);
        for (int i = 0; i < branches.size(); i++) {
            Branch branch = branches.get(i);
            int next = branch.one == at ? branch.other : branch.other == at ? branch.one : -1;
            if (next >= 0 && !way.points.contains(next) && !(isDry && branch.wet)) {
                List<Integer> nextPoints = new ArrayList<>(way.points);
                List<Integer> nextBranches = new ArrayList<>(way.branches);
                nextPoints.add(next);
                nextBranches.add(i);
                tryAll(from, isDry, new Way(way.length + branch.length, nextPoints, nextBranches));
            }
        }
    }

    Way least(int from, int to, boolean isDry) {
        if (!ways.containsKey(List.of(from, from, isDry))) {
            tryAll(from, isDry, new Way(0, List.of(from), List.of()));
        }
        return ways.get(List.of(from, to, isDry));
    }

    public int way(int from, int to, boolean isDry) {
        index(isPoint(from) && isPoint(to));
        Way way = least(from, to, isDry);
        element(way != null);
        return way.length;
    }

    public int wayPoint(int from, int to, boolean isDry, int index) {
        index(isPoint(from) && isPoint(to));
        Way way = least(from, to, isDry);
        element(way != null && isIn(index, 0, way.points.size() - 1));
        return way.points.get(index);
    }

    // Circuits

    public int circuit(int first, int second, int third, int size, int amperes, boolean isDry) {
        index(isPoint(first) && isPoint(second) && (third == -1 || isPoint(third)));
        argument(first != second && first != third && second != third);
        argument(isIn(size, 1, 9) && isIn(amperes, 0, 99));
        state(circuits.size() < 12);
        Circuit circuit = new Circuit();
        circuit.ends = third == -1 ? List.of(first, second) : List.of(first, second, third);
        circuit.size = size;
        circuit.amperes = amperes;
        circuit.dry = isDry;
        circuits.add(circuit);
        return circuits.size() - 1;
    }

    public int need(int circuit, int all, int none) {
        index(isCircuit(circuit));
        argument(isSetOfOptions(all) && isSetOfOptions(none));
        int before = circuits.get(circuit).all;
        circuits.get(circuit).all = all;
        circuits.get(circuit).none = none;
        return before;
    }

    private boolean isNeeded(int choice, int circuit) {
        for (int option = 0; option < options; option++) {
            boolean has = (choice >> option & 1) == 1;
            if ((circuits.get(circuit).all >> option & 1) == 1 && !has) {
                return false;
            }
            if ((circuits.get(circuit).none >> option & 1) == 1 && has) {
                return false;
            }
        }
        return true;
    }

    public boolean needs(int choice, int circuit) {
        index(isCircuit(circuit));
        argument(isSetOfOptions(choice));
        return isNeeded(choice, circuit);
    }

    /** -1 if there is none. */
    private int spliceOf(Circuit circuit) {
        int best = -1;
        int least = Integer.MAX_VALUE;
        for (int point = points - 1; point >= 0; point--) {
            int sum = 0;
            boolean all = true;
            for (int end : circuit.ends) {
                Way way = least(end, point, circuit.dry);
                all &= way != null;
                sum += way == null ? 0 : way.length;
            }
            if (all && sum <= least) {
                best = point;
                least = sum;
            }
        }
        return best;
    }

    /** By ends, null for an end that is the splice; null if the circuit cannot be laid. */
    private List<Way> wiresByEnds(int number) {
        Circuit circuit = circuits.get(number);
        List<Way> wires = new ArrayList<>();
        if (circuit.ends.size() == 2) {
            Way way = least(circuit.ends.get(0), circuit.ends.get(1), circuit.dry);
            if (way == null) {
                return null;
            }
            wires.add(way);
            wires.add(null);
            return wires;
        }
        int splice = spliceOf(circuit);
        if (splice < 0) {
            return null;
        }
        for (int end : circuit.ends) {
            wires.add(end == splice ? null : least(end, splice, circuit.dry));
        }
        return wires;
    }

    private List<Way> wiresOf(int number) {
        List<Way> wires = new ArrayList<>();
        List<Way> byEnds = wiresByEnds(number);
        if (byEnds != null) {
            for (Way way : byEnds) {
                if (way != null) {
                    wires.add(way);
                }
            }
        }
        return wires;
    }

    public boolean canBeLaid(int circuit) {
        index(isCircuit(circuit));
        return wiresByEnds(circuit) != null;
    }

    public int splice(int circuit) {
        index(isCircuit(circuit));
        element(circuits.get(circuit).ends.size() == 3 && canBeLaid(circuit));
        return spliceOf(circuits.get(circuit));
    }

    public int wires(int circuit) {
        index(isCircuit(circuit));
        return wiresOf(circuit).size();
    }

    public int wireLength(int circuit, int wire) {
        index(isCircuit(circuit));
        element(isIn(wire, 0, wiresOf(circuit).size() - 1));
        return wiresOf(circuit).get(wire).length;
    }

    public boolean goesThrough(int circuit, int branch) {
        index(isCircuit(circuit) && isIn(branch, 0, branches.size() - 1));
        for (Way way : wiresOf(circuit)) {
            if (way.branches.contains(branch)) {
                return true;
            }
        }
        return false;
    }

    private int sizeAt(int circuit, int when) {
        Change best = null;
        for (Change change : changes) {
            if (change.circuit == circuit && change.chassis <= when
                    && (best == null || change.chassis >= best.chassis)) {
                best = change;
            }
        }
        return best == null ? circuits.get(circuit).size : best.size;
    }

    public int size(int circuit) {
        index(isCircuit(circuit));
        return sizeAt(circuit, chassis);
    }

    private int dropOf(int circuit, int end) {
        List<Way> byEnds = wiresByEnds(circuit);
        int sum = 0;
        sum += byEnds.get(0) == null ? 0 : byEnds.get(0).length;
        sum += byEnds.get(end) == null ? 0 : byEnds.get(end).length;
        return circuits.get(circuit).amperes * sum / sizeAt(circuit, chassis);
    }

    public int drop(int circuit, int end) {
        index(isCircuit(circuit));
        element(isIn(end, 1, circuits.get(circuit).ends.size() - 1) && canBeLaid(circuit));
        return dropOf(circuit, end);
    }

    public int limit(int newLimit) {
        argument(isIn(newLimit, 0, 9999));
        int before = limit;
        limit = newLimit;
        return before;
    }

    private int widthOf(int choice, int branch) {
        int sum = 0;
        for (int circuit = 0; circuit < circuits.size(); circuit++) {
            if (isNeeded(choice, circuit)) {
                for (Way way : wiresOf(circuit)) {
                    sum += way.branches.contains(branch) ? sizeAt(circuit, chassis) : 0;
                }
            }
        }
        return sum;
    }

    public int width(int choice, int branch) {
        index(isIn(branch, 0, branches.size() - 1));
        argument(isSetOfOptions(choice));
        return widthOf(choice, branch);
    }

    // Connectors

    public int connector(int point, int cavities, int most, boolean isSealed) {
        index(isPoint(point));
        argument(isIn(cavities, 1, 9) && isIn(most, 1, 9));
        state(connectors.size() < 6);
        connectors.add(new Connector(point, cavities, most, isSealed));
        return connectors.size() - 1;
    }

    private Seats seats(int choice) {
        Map<List<Integer>, Integer> taken = new HashMap<>();
        int loose = 0;
        for (int point = 0; point < points; point++) {
            int here = point;
            if (connectors.stream().noneMatch(connector -> connector.point == here)) {
                continue;
            }
            for (int circuit = 0; circuit < circuits.size(); circuit++) {
                if (!isNeeded(choice, circuit) || !circuits.get(circuit).ends.contains(point)) {
                    continue;
                }
                List<Integer> seat = seatFor(circuit, point, taken);
                if (seat == null) {
                    loose++;
                } else {
                    taken.put(seat, circuit);
                }
            }
        }
        return new Seats(taken, loose);
    }

    private List<Integer> seatFor(int circuit, int point, Map<List<Integer>, Integer> taken) {
        for (int number = 0; number < connectors.size(); number++) {
            Connector connector = connectors.get(number);
            if (connector.point != point || sizeAt(circuit, chassis) > connector.most
                    || !connector.sealed && !circuits.get(circuit).dry) {
                continue;
            }
            for (int cavity = 0; cavity < connector.cavities; cavity++) {
                if (!taken.containsKey(List.of(number, cavity))) {
                    return List.of(number, cavity);
                }
            }
        }
        return null;
    }

    public int inCavity(int choice, int connector, int cavity) {
        index(isIn(connector, 0, connectors.size() - 1));
        index(isIn(cavity, 0, connectors.get(connector).cavities - 1));
        argument(isSetOfOptions(choice));
        Integer circuit = seats(choice).taken.get(List.of(connector, cavity));
        element(circuit != null);
        return circuit;
    }

    public int plugs(int choice, int connector) {
        index(isIn(connector, 0, connectors.size() - 1));
        argument(isSetOfOptions(choice));
        if (!connectors.get(connector).sealed) {
            return 0;
        }
        int free = 0;
        Seats seats = seats(choice);
        for (int cavity = 0; cavity < connectors.get(connector).cavities; cavity++) {
            free += seats.taken.containsKey(List.of(connector, cavity)) ? 0 : 1;
        }
        return free;
    }

    public int loose(int choice) {
        argument(isSetOfOptions(choice));
        return seats(choice).loose;
    }

    // Proofs

    private char letter(int choice) {
        if (!allRulesHold(choice)) {
            return 'b';
        }
        for (int circuit = 0; circuit < circuits.size(); circuit++) {
            if (isNeeded(choice, circuit) && wiresByEnds(circuit) == null) {
                return 'n';
            }
        }
        for (int branch = 0; branch < branches.size(); branch++) {
            if (widthOf(choice, branch) > branches.get(branch).bears) {
                return 'w';
            }
        }
        if (seats(choice).loose > 0) {
            return 'l';
        }
        for (int circuit = 0; circuit < circuits.size(); circuit++) {
            for (int end = 1; end < circuits.get(circuit).ends.size(); end++) {
                if (isNeeded(choice, circuit) && dropOf(circuit, end) > limit) {
                    return 'd';
                }
            }
        }
        return 'p';
    }

    public char proof(int choice) {
        argument(isSetOfOptions(choice));
        return letter(choice);
    }

    public int unproved() {
        for (int choice = 0; choice < choices(); choice++) {
            if (allRulesHold(choice) && letter(choice) != 'p') {
                return choice;
            }
        }
        throw new NoSuchElementException();
    }

    // Modules

    public int module(int set) {
        for (int i = 0; i < 32; i++) {
            argument((set >>> i & 1) == 0 || isCircuit(i));
        }
        argument(set != 0);
        state(modules.size() < 6);
        modules.add(set);
        return modules.size() - 1;
    }

    public int built(int choice) {
        argument(isSetOfOptions(choice));
        for (int many = 0; many <= modules.size(); many++) {
            for (int set = 0; set < 64; set++) {
                if (Integer.bitCount(set) == many && set >> modules.size() == 0 && isJust(set, choice)) {
                    return set;
                }
            }
        }
        throw new NoSuchElementException();
    }

    boolean isJust(int set, int choice) {
        for (int circuit = 0; circuit < circuits.size(); circuit++) {
            int many = 0;
            for (int module = 0; module < modules.size(); module++) {
                many += (set >> module & 1) & (modules.get(module) >> circuit & 1);
            }
            if (many != (isNeeded(choice, circuit) ? 1 : 0)) {
                return false;
            }
        }
        return true;
    }

    // Cutting

    public int order(int choice) {
        argument(isSetOfOptions(choice));
        if (!allRulesHold(choice)) {
            throw new UnsupportedOperationException();
        }
        state(orders.size() < 10);
        orders.add(new Order(choice, chassis));
        return orders.size();
    }

    public int stock(int size, int length, int many) {
        argument(isIn(size, 1, 9) && isIn(length, 3, 999) && isIn(many, 1, 20));
        return stock.merge(new Wire(size, length), many, Integer::sum);
    }

    public int inStock(int size, int length) {
        argument(isIn(size, 1, 9) && isIn(length, 3, 999));
        return stock.getOrDefault(new Wire(size, length), 0);
    }

    /** Takes from the stock that is given what is in it; returns the others as they are cut. */
    private List<Wire> fresh(Map<Wire, Integer> from) {
        List<Wire> fresh = new ArrayList<>();
        for (Order order : orders) {
            for (int circuit = 0; circuit < circuits.size(); circuit++) {
                if (!isNeeded(order.choice, circuit)) {
                    continue;
                }
                for (Way way : wiresOf(circuit)) {
                    Wire wire = new Wire(sizeAt(circuit, order.chassis), way.length + 2);
                    if (from.getOrDefault(wire, 0) > 0) {
                        from.merge(wire, -1, Integer::sum);
                    } else {
                        fresh.add(wire);
                    }
                }
            }
        }
        fresh.sort(Comparator.comparingInt(Wire::size).thenComparing(Wire::length, Comparator.reverseOrder()));
        return fresh;
    }

    public int toCut() {
        return fresh(new HashMap<>(stock)).size();
    }

    public int cut() {
        state(!orders.isEmpty());
        int cost = 0;
        Wire ahead = null;
        for (Wire wire : fresh(stock)) {
            if (ahead == null || ahead.size != wire.size) {
                cost += 5;
            } else if (ahead.length != wire.length) {
                cost += 1;
            }
            cost += 1;
            ahead = wire;
        }
        orders.clear();
        return cost;
    }

    // The board

    private int lengthSum(int circuit) {
        int sum = 0;
        for (Way way : wiresOf(circuit)) {
            sum += way.length;
        }
        return sum;
    }

    private boolean goesAhead(int one, int other) {
        boolean share = false;
        for (int branch = 0; branch < branches.size(); branch++) {
            share |= goesThrough(one, branch) && goesThrough(other, branch);
        }
        int oneSize = sizeAt(one, chassis);
        int otherSize = sizeAt(other, chassis);
        return share && (oneSize > otherSize || oneSize == otherSize && one < other);
    }

    private List<Integer> board(int choice) {
        List<Integer> left = new ArrayList<>();
        for (int circuit = 0; circuit < circuits.size(); circuit++) {
            if (isNeeded(choice, circuit) && canBeLaid(circuit)) {
                left.add(circuit);
            }
        }
        List<Integer> row = new ArrayList<>();
        while (!left.isEmpty()) {
            Integer next = null;
            for (Integer circuit : left) {
                boolean free = left.stream().noneMatch(other -> goesAhead(other, circuit));
                if (free && (next == null || lengthSum(circuit) > lengthSum(next))) {
                    next = circuit;
                }
            }
            row.add(next);
            left.remove(next);
        }
        return row;
    }

    public int laid(int choice) {
        argument(isSetOfOptions(choice));
        return board(choice).size();
    }

    public int laidAt(int choice, int place) {
        argument(isSetOfOptions(choice));
        List<Integer> row = board(choice);
        element(isIn(place, 0, row.size() - 1));
        return row.get(place);
    }

    public int lineTime(int choice, int places) {
        argument(isSetOfOptions(choice) && isIn(places, 1, 4));
        return leastTime(board(choice), places);
    }

    /** Tries each length of the first row. */
    private int leastTime(List<Integer> row, int places) {
        int best = Integer.MAX_VALUE;
        for (int first = 0; first <= row.size(); first++) {
            int time = 0;
            for (int circuit : row.subList(0, first)) {
                time += lengthSum(circuit) + 3 * wiresOf(circuit).size();
            }
            if (places > 1) {
                best = Math.min(best, Math.max(time, leastTime(row.subList(first, row.size()), places - 1)));
            } else if (first == row.size()) {
                best = time;
            }
        }
        return best;
    }

    // Tests

    public int open(int circuit) {
        index(isCircuit(circuit));
        if (opens.contains(circuit)) {
            throw new UnsupportedOperationException();
        }
        state(opens.size() + shorts.size() < 8);
        opens.add(circuit);
        return opens.size() + shorts.size();
    }

    public int shorted(int one, int other) {
        index(isCircuit(one) && isCircuit(other));
        argument(one != other);
        state(opens.size() + shorts.size() < 8);
        shorts.add(List.of(one, other));
        return opens.size() + shorts.size();
    }

    public int mend() {
        int many = opens.size() + shorts.size();
        opens.clear();
        shorts.clear();
        return many;
    }

    public boolean leads(int circuit) {
        index(isCircuit(circuit));
        return !opens.contains(circuit);
    }

    public boolean touch(int one, int other) {
        index(isCircuit(one) && isCircuit(other));
        return reaches(one, other, new boolean[12]);
    }

    private boolean reaches(int at, int to, boolean[] seen) {
        if (at == to) {
            return true;
        }
        seen[at] = true;
        for (List<Integer> pair : shorts) {
            if (pair.contains(at)) {
                int next = pair.get(0) == at ? pair.get(1) : pair.get(0);
                if (!seen[next] && reaches(next, to, seen)) {
                    return true;
                }
            }
        }
        return false;
    }

    public int tests(int choice) {
        argument(isSetOfOptions(choice));
        int cases = 1;
        for (int circuit = 0; circuit < circuits.size(); circuit++) {
            cases += isNeeded(choice, circuit) ? 1 : 0;
        }
        int k = 0;
        for (int power = 1; power < cases; power *= 2) {
            k++;
        }
        return k;
    }

    // Changes

    public int change(int circuit, int from, int size) {
        index(isCircuit(circuit));
        argument(isIn(from, 0, 9999) && isIn(size, 1, 9));
        state(changes.size() < 8);
        changes.add(new Change(circuit, from, size));
        return changes.size();
    }

    public int chassis(int newChassis) {
        argument(isIn(newChassis, 0, 9999));
        int before = chassis;
        chassis = newChassis;
        return before;
    }

    // Costs and sums

    private int costBy(int choice) {
        int sum = 0;
        for (int circuit = 0; circuit < circuits.size(); circuit++) {
            sum += isNeeded(choice, circuit) ? sizeAt(circuit, chassis) * lengthSum(circuit) : 0;
        }
        return sum;
    }

    public int cost(int choice) {
        argument(isSetOfOptions(choice));
        return costBy(choice);
    }

    public long costOf(int option) {
        index(isOption(option));
        long sum = 0;
        for (int choice = 0; choice < choices(); choice++) {
            int with = choice | 1 << option;
            if (choice != with && allRulesHold(choice) && allRulesHold(with)) {
                sum += costBy(with) - costBy(choice);
            }
        }
        return sum;
    }

    public long checksum() {
        long sum = 7;
        for (int choice = 0; choice < choices(); choice++) {
            sum = sum * 31 + letter(choice);
            sum = sum * 31 + costBy(choice);
        }
        return sum;
    }

    public float provedShare() {
        int proved = 0;
        for (int choice = 0; choice < choices(); choice++) {
            proved += letter(choice) == 'p' ? 1 : 0;
        }
        if (buildable() == 0) {
            throw new ArithmeticException();
        }
        return (float) proved / (float) buildable();
    }

    public double meanLength() {
        int sum = 0;
        int many = 0;
        for (int circuit = 0; circuit < circuits.size(); circuit++) {
            sum += lengthSum(circuit);
            many += wiresOf(circuit).size();
        }
        if (many == 0) {
            throw new ArithmeticException();
        }
        return (double) sum / (double) many;
    }

    public boolean isSound() {
        return true;
    }

    // For the tests: what there is

    int cavities(int connector) {
        return connectors.get(connector).cavities;
    }

    boolean isTaken(int choice, int connector, int cavity) {
        return seats(choice).taken.containsKey(List.of(connector, cavity));
    }

    Map<String, Integer> counts() {
        Map<String, Integer> counts = new TreeMap<>();
        counts.put("options", options);
        counts.put("points", points);
        counts.put("branches", branches.size());
        counts.put("circuits", circuits.size());
        counts.put("connectors", connectors.size());
        return counts;
    }

    /** Sizes and lengths of wires as they are cut now, so that stock can be told that fits. */
    List<int[]> kindsOfWires() {
        List<int[]> kinds = new ArrayList<>();
        for (int circuit = 0; circuit < circuits.size(); circuit++) {
            for (Way way : wiresOf(circuit)) {
                kinds.add(new int[] {sizeAt(circuit, chassis), way.length + 2});
            }
        }
        return kinds;
    }

    @Override
    public String toString() {
        return Arrays.toString(new Object[] {options, rules, points, branches, connectors, modules, changes});
    }
}
