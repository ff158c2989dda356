import java.util.Arrays;
import java.util.NoSuchElementException;

/**
 * The nerves of a vehicle: options, a net of branches, circuits laid through it, connectors,
 * proofs, modules, cutting, the board, tests, changes and costs.
 *
 * <p>The face checks all arguments, in the order of the document, before anything is changed; the
 * classes inside are only asked for what there is. All rows are made once and used again.
 */
public final class Harnessboard {
    private static final int MOST_OPTIONS = 8;
    private static final int MOST_RULES = 12;
    private static final int MOST_POINTS = 10;
    private static final int MOST_BRANCHES = 16;
    private static final int MOST_CIRCUITS = 12;
    private static final int MOST_ENDS = 3;
    private static final int MOST_CONNECTORS = 6;
    private static final int MOST_CAVITIES = 9;
    private static final int MOST_MODULES = 6;
    private static final int MOST_ORDERS = 10;
    private static final int MOST_PLACES = 4;
    private static final int MOST_FAULTS = 8;
    private static final int MOST_CHANGES = 8;

    private static final int GREATEST_LENGTH = 99;
    private static final int GREATEST_WIDTH = 99;
    private static final int GREATEST_SIZE = 9;
    private static final int GREATEST_AMPERES = 99;
    private static final int GREATEST_LIMIT = 9999;
    private static final int GREATEST_CHASSIS = 9999;
    private static final int LEAST_STOCK_LENGTH = 3;
    private static final int GREATEST_STOCK_LENGTH = 999;
    private static final int MOST_STOCKED_AT_ONCE = 20;

    /** What is added to the length of a wire when it is cut. */
    private static final int CUT_ADDITION = 2;
    /** The time that a wire takes on the board beside its length. */
    private static final int TIME_OF_WIRE = 3;
    /** Stands for a number that there is not. */
    private static final int NOTHING = -1;

    private final Options options = new Options();
    private final Net net = new Net();
    private final WayTrial trial = new WayTrial(net);
    private final Circuits circuits = new Circuits();
    private final Connectors connectors = new Connectors();
    private final int[] modules = new int[MOST_MODULES];
    private int moduleCount = 0;
    private final Machine machine = new Machine();
    private final Board board = new Board();
    private final Faults faults = new Faults();
    private int dropLimit = GREATEST_LIMIT;

    /** Creates a vehicle without options, points and circuits. */
    public Harnessboard() {
    }

    // Options

    public int option() throws IllegalStateException {
        if (options.count >= MOST_OPTIONS) {
            throw new IllegalStateException("there are 8 options");
        }
        return options.addOption();
    }

    public int rule(int one, int other, char kind)
            throws IndexOutOfBoundsException, IllegalArgumentException, IllegalStateException {
        checkOption(one);
        checkOption(other);
        if (one == other) {
            throw new IllegalArgumentException("a rule is of two unlike options");
        }
        if (kind != 'x' && kind != 'f') {
            throw new IllegalArgumentException("there is no such kind");
        }
        if (options.rules >= MOST_RULES) {
            throw new IllegalStateException("there are 12 rules");
        }
        return options.addRule(one, other, kind == 'f');
    }

    public boolean isBuildable(int choice) throws IllegalArgumentException {
        checkChoice(choice);
        return options.allow(choice);
    }

    public int buildable() {
        return buildableCount();
    }

    // Branches

    public int point() throws IllegalStateException {
        if (net.points >= MOST_POINTS) {
            throw new IllegalStateException("there are 10 points");
        }
        return net.addPoint();
    }

    public int branch(int one, int other, int length, boolean isWet, int bears)
            throws IndexOutOfBoundsException, IllegalArgumentException, IllegalStateException {
        checkPoint(one);
        checkPoint(other);
        if (one == other) {
            throw new IllegalArgumentException("a branch is between two unlike points");
        }
        checkRange(length, 1, GREATEST_LENGTH);
        checkRange(bears, 1, GREATEST_WIDTH);
        if (net.branches >= MOST_BRANCHES) {
            throw new IllegalStateException("there are 16 branches");
        }
        int number = net.addBranch(one, other, length, isWet, bears);
        circuits.layAll(net);
        return number;
    }

    public int way(int from, int to, boolean isDry) throws IndexOutOfBoundsException, NoSuchElementException {
        checkPoint(from);
        checkPoint(to);
        int length = net.leastLength(from, to, isDry);
        if (length < 0) {
            throw new NoSuchElementException("there is no way");
        }
        return length;
    }

    public int wayPoint(int from, int to, boolean isDry, int index)
            throws IndexOutOfBoundsException, NoSuchElementException {
        checkPoint(from);
        checkPoint(to);
        int steps = net.findWay(from, to, isDry);
        if (steps < 0) {
            throw new NoSuchElementException("there is no way");
        }
        if (index < 0 || index > steps) {
            throw new NoSuchElementException("the way has no such index");
        }
        return net.wayPoints[index];
    }

    // Circuits

    public int circuit(int first, int second, int third, int size, int amperes, boolean isDry)
            throws IndexOutOfBoundsException, IllegalArgumentException, IllegalStateException {
        checkPoint(first);
        checkPoint(second);
        if (third != NOTHING) {
            checkPoint(third);
        }
        if (first == second || first == third || second == third) {
            throw new IllegalArgumentException("the ends are unlike points");
        }
        checkRange(size, 1, GREATEST_SIZE);
        checkRange(amperes, 0, GREATEST_AMPERES);
        if (circuits.count >= MOST_CIRCUITS) {
            throw new IllegalStateException("there are 12 circuits");
        }
        int[] ends = new int[third == NOTHING ? MOST_ENDS - 1 : MOST_ENDS];
        ends[0] = first;
        ends[1] = second;
        if (ends.length == MOST_ENDS) {
            ends[MOST_ENDS - 1] = third;
        }
        return circuits.add(new Circuit(ends, size, amperes, isDry), net);
    }

    public int need(int circuit, int all, int none) throws IndexOutOfBoundsException, IllegalArgumentException {
        checkCircuit(circuit);
        checkChoice(all);
        checkChoice(none);
        Circuit told = circuits.list[circuit];
        int before = told.all;
        told.all = all;
        told.none = none;
        return before;
    }

    public boolean needs(int choice, int circuit) throws IndexOutOfBoundsException, IllegalArgumentException {
        checkCircuit(circuit);
        checkChoice(choice);
        return circuits.list[circuit].isNeededBy(choice);
    }

    public boolean canBeLaid(int circuit) throws IndexOutOfBoundsException {
        checkCircuit(circuit);
        return circuits.list[circuit].isLayable();
    }

    public int splice(int circuit) throws IndexOutOfBoundsException, NoSuchElementException {
        checkCircuit(circuit);
        Circuit asked = circuits.list[circuit];
        if (asked.ends.length < MOST_ENDS) {
            throw new NoSuchElementException("a circuit of two ends has no splice");
        }
        if (!asked.isLayable()) {
            throw new NoSuchElementException("the circuit cannot be laid");
        }
        return asked.meeting;
    }

    public int wires(int circuit) throws IndexOutOfBoundsException {
        checkCircuit(circuit);
        return circuits.list[circuit].wireCount;
    }

    public int wireLength(int circuit, int wire) throws IndexOutOfBoundsException, NoSuchElementException {
        checkCircuit(circuit);
        int length = circuits.list[circuit].lengthOfWire(wire);
        if (length < 0) {
            throw new NoSuchElementException("there is no such wire");
        }
        return length;
    }

    public boolean goesThrough(int circuit, int branch) throws IndexOutOfBoundsException {
        checkCircuit(circuit);
        checkBranch(branch);
        return isIn(circuits.list[circuit].branchSet, branch);
    }

    public int size(int circuit) throws IndexOutOfBoundsException {
        checkCircuit(circuit);
        return circuits.list[circuit].sizeNow;
    }

    public int drop(int circuit, int end) throws IndexOutOfBoundsException, NoSuchElementException {
        checkCircuit(circuit);
        Circuit asked = circuits.list[circuit];
        if (end < 1 || end >= asked.ends.length) {
            throw new NoSuchElementException("the circuit has no such end");
        }
        if (!asked.isLayable()) {
            throw new NoSuchElementException("the circuit cannot be laid");
        }
        return asked.dropAt(end);
    }

    public int limit(int limit) throws IllegalArgumentException {
        checkRange(limit, 0, GREATEST_LIMIT);
        int before = dropLimit;
        dropLimit = limit;
        return before;
    }

    public int width(int choice, int branch) throws IndexOutOfBoundsException, IllegalArgumentException {
        checkBranch(branch);
        checkChoice(choice);
        return circuits.widthOf(circuits.neededBy(choice), branch);
    }

    // Connectors

    public int connector(int point, int cavities, int most, boolean isSealed)
            throws IndexOutOfBoundsException, IllegalArgumentException, IllegalStateException {
        checkPoint(point);
        checkRange(cavities, 1, MOST_CAVITIES);
        checkRange(most, 1, GREATEST_SIZE);
        if (connectors.count >= MOST_CONNECTORS) {
            throw new IllegalStateException("there are 6 connectors");
        }
        return connectors.add(new Connector(point, cavities, most, isSealed));
    }

    public int inCavity(int choice, int connector, int cavity)
            throws IndexOutOfBoundsException, IllegalArgumentException, NoSuchElementException {
        checkConnector(connector);
        Connector asked = connectors.list[connector];
        if (cavity < 0 || cavity >= asked.held.length) {
            throw new IndexOutOfBoundsException("there is no such cavity");
        }
        checkChoice(choice);
        connectors.seatAll(circuits, circuits.neededBy(choice));
        if (cavity >= asked.taken) {
            throw new NoSuchElementException("the cavity is free");
        }
        return asked.held[cavity];
    }

    public int plugs(int choice, int connector) throws IndexOutOfBoundsException, IllegalArgumentException {
        checkConnector(connector);
        checkChoice(choice);
        connectors.seatAll(circuits, circuits.neededBy(choice));
        Connector asked = connectors.list[connector];
        return asked.isSealed ? asked.held.length - asked.taken : 0;
    }

    public int loose(int choice) throws IllegalArgumentException {
        checkChoice(choice);
        return connectors.seatAll(circuits, circuits.neededBy(choice));
    }

    // Proofs

    public char proof(int choice) throws IllegalArgumentException {
        checkChoice(choice);
        return letterOf(choice);
    }

    public int unproved() throws NoSuchElementException {
        int choice = firstUnproved();
        if (choice < 0) {
            throw new NoSuchElementException("all buildable choices are proved");
        }
        return choice;
    }

    // Modules

    public int module(int circuits) throws IllegalArgumentException, IllegalStateException {
        if ((circuits & ~this.circuits.allOfThem()) != 0) {
            throw new IllegalArgumentException("there is no such circuit");
        }
        if (circuits == 0) {
            throw new IllegalArgumentException("a module has a circuit");
        }
        if (moduleCount >= MOST_MODULES) {
            throw new IllegalStateException("there are 6 modules");
        }
        modules[moduleCount] = circuits;
        moduleCount++;
        return moduleCount - 1;
    }

    public int built(int choice) throws IllegalArgumentException, NoSuchElementException {
        checkChoice(choice);
        int set = fewestModulesFor(circuits.neededBy(choice));
        if (set < 0) {
            throw new NoSuchElementException("no modules have just these circuits");
        }
        return set;
    }

    // Cutting

    public int order(int choice)
            throws IllegalArgumentException, UnsupportedOperationException, IllegalStateException {
        checkChoice(choice);
        if (!options.allow(choice)) {
            throw new UnsupportedOperationException("the choice is not buildable");
        }
        if (machine.orders >= MOST_ORDERS) {
            throw new IllegalStateException("10 vehicles are ordered");
        }
        return machine.addOrder(choice, circuits.toldChassis);
    }

    public int stock(int size, int length, int many) throws IllegalArgumentException {
        checkStockKind(size, length);
        checkRange(many, 1, MOST_STOCKED_AT_ONCE);
        return machine.putInStock(size, length, many);
    }

    public int inStock(int size, int length) throws IllegalArgumentException {
        checkStockKind(size, length);
        return machine.stocked(size, length);
    }

    public int toCut() {
        return machine.countToCut(circuits);
    }

    public int cut() throws IllegalStateException {
        if (machine.orders == 0) {
            throw new IllegalStateException("nothing is ordered");
        }
        return machine.cutAll(circuits);
    }

    // The board

    public int laid(int choice) throws IllegalArgumentException {
        checkChoice(choice);
        layOnBoard(choice);
        return board.count;
    }

    public int laidAt(int choice, int place) throws IllegalArgumentException, NoSuchElementException {
        checkChoice(choice);
        layOnBoard(choice);
        if (place < 0 || place >= board.count) {
            throw new NoSuchElementException("there is no such place");
        }
        return board.row[place];
    }

    public int lineTime(int choice, int places) throws IllegalArgumentException {
        checkChoice(choice);
        checkRange(places, 1, MOST_PLACES);
        layOnBoard(choice);
        return board.leastGreatestTime(circuits, places);
    }

    // Tests

    public int open(int circuit)
            throws IndexOutOfBoundsException, UnsupportedOperationException, IllegalStateException {
        checkCircuit(circuit);
        if (faults.isOpen(circuit)) {
            throw new UnsupportedOperationException("the circuit is open");
        }
        if (faults.count >= MOST_FAULTS) {
            throw new IllegalStateException("8 faults are told");
        }
        return faults.addOpen(circuit);
    }

    public int shorted(int one, int other)
            throws IndexOutOfBoundsException, IllegalArgumentException, IllegalStateException {
        checkCircuit(one);
        checkCircuit(other);
        if (one == other) {
            throw new IllegalArgumentException("a short is of two unlike circuits");
        }
        if (faults.count >= MOST_FAULTS) {
            throw new IllegalStateException("8 faults are told");
        }
        return faults.addShort(one, other);
    }

    public int mend() {
        return faults.clear();
    }

    public boolean leads(int circuit) throws IndexOutOfBoundsException {
        checkCircuit(circuit);
        return !faults.isOpen(circuit);
    }

    public boolean touch(int one, int other) throws IndexOutOfBoundsException {
        checkCircuit(one);
        checkCircuit(other);
        return isIn(faults.touchedBy(one), other);
    }

    public int tests(int choice) throws IllegalArgumentException {
        checkChoice(choice);
        int cases = Integer.bitCount(circuits.neededBy(choice)) + 1;
        int tests = 0;
        while (tests < MOST_CIRCUITS && 1 << tests < cases) {
            tests++;
        }
        return tests;
    }

    // Changes

    public int change(int circuit, int chassis, int size)
            throws IndexOutOfBoundsException, IllegalArgumentException, IllegalStateException {
        checkCircuit(circuit);
        checkRange(chassis, 0, GREATEST_CHASSIS);
        checkRange(size, 1, GREATEST_SIZE);
        if (circuits.changes >= MOST_CHANGES) {
            throw new IllegalStateException("8 changes are told");
        }
        return circuits.addChange(circuit, chassis, size);
    }

    public int chassis(int chassis) throws IllegalArgumentException {
        checkRange(chassis, 0, GREATEST_CHASSIS);
        return circuits.tellChassis(chassis);
    }

    // Costs

    public int cost(int choice) throws IllegalArgumentException {
        checkChoice(choice);
        return circuits.copperOf(circuits.neededBy(choice));
    }

    public long costOf(int option) throws IndexOutOfBoundsException {
        checkOption(option);
        int bit = 1 << option;
        long sum = 0;
        for (int choice = 0; choice < options.choices(); choice++) {
            if ((choice & bit) == 0 && options.allow(choice) && options.allow(choice | bit)) {
                int with = circuits.copperOf(circuits.neededBy(choice | bit));
                int without = circuits.copperOf(circuits.neededBy(choice));
                sum += with - without;
            }
        }
        return sum;
    }

    // Sums over the vehicle

    public long checksum() {
        long sum = 7;
        for (int choice = 0; choice < options.choices(); choice++) {
            sum = 31 * sum + letterOf(choice);
            sum = 31 * sum + circuits.copperOf(circuits.neededBy(choice));
        }
        return sum;
    }

    public float provedShare() throws ArithmeticException {
        int all = buildableCount();
        if (all == 0) {
            throw new ArithmeticException("no choice is buildable");
        }
        int proved = 0;
        for (int choice = 0; choice < options.choices(); choice++) {
            if (letterOf(choice) == 'p') {
                proved++;
            }
        }
        return (float) proved / (float) all;
    }

    public double meanLength() throws ArithmeticException {
        int sum = 0;
        int wires = 0;
        for (int i = 0; i < circuits.count; i++) {
            sum += circuits.list[i].lengthSum;
            wires += circuits.list[i].wireCount;
        }
        if (wires == 0) {
            throw new ArithmeticException("no circuit can be laid");
        }
        return (double) sum / (double) wires;
    }

    public boolean isSound() {
        return waysAreLeast() && circuits.splicesAreBest(net) && choicesAreSound();
    }

    // What the face throws for arguments

    private void checkOption(int option) throws IndexOutOfBoundsException {
        if (option < 0 || option >= options.count) {
            throw new IndexOutOfBoundsException("there is no such option");
        }
    }

    private void checkChoice(int choice) throws IllegalArgumentException {
        if (choice < 0 || choice >= options.choices()) {
            throw new IllegalArgumentException("it has an option that there is not");
        }
    }

    private void checkPoint(int point) throws IndexOutOfBoundsException {
        if (point < 0 || point >= net.points) {
            throw new IndexOutOfBoundsException("there is no such point");
        }
    }

    private void checkBranch(int branch) throws IndexOutOfBoundsException {
        if (branch < 0 || branch >= net.branches) {
            throw new IndexOutOfBoundsException("there is no such branch");
        }
    }

    private void checkCircuit(int circuit) throws IndexOutOfBoundsException {
        if (circuit < 0 || circuit >= circuits.count) {
            throw new IndexOutOfBoundsException("there is no such circuit");
        }
    }

    private void checkConnector(int connector) throws IndexOutOfBoundsException {
        if (connector < 0 || connector >= connectors.count) {
            throw new IndexOutOfBoundsException("there is no such connector");
        }
    }

    private static void checkRange(int number, int least, int greatest) throws IllegalArgumentException {
        if (number < least || number > greatest) {
            throw new IllegalArgumentException("a number is out of range");
        }
    }

    private static void checkStockKind(int size, int length) throws IllegalArgumentException {
        checkRange(size, 1, GREATEST_SIZE);
        checkRange(length, LEAST_STOCK_LENGTH, GREATEST_STOCK_LENGTH);
    }

    // What several methods of the face ask

    private static boolean isIn(int set, int number) {
        return (set >> number & 1) != 0;
    }

    private int buildableCount() {
        int found = 0;
        for (int choice = 0; choice < options.choices(); choice++) {
            if (options.allow(choice)) {
                found++;
            }
        }
        return found;
    }

    private char letterOf(int choice) {
        if (!options.allow(choice)) {
            return 'b';
        }
        int needed = circuits.neededBy(choice);
        if (circuits.layableOf(needed) != needed) {
            return 'n';
        }
        if (isTooWide(needed)) {
            return 'w';
        }
        if (connectors.seatAll(circuits, needed) > 0) {
            return 'l';
        }
        if (circuits.greatestDrop(needed) > dropLimit) {
            return 'd';
        }
        return 'p';
    }

    private boolean isTooWide(int needed) {
        for (int branch = 0; branch < net.branches; branch++) {
            if (circuits.widthOf(needed, branch) > net.bears[branch]) {
                return true;
            }
        }
        return false;
    }

    private int firstUnproved() {
        for (int choice = 0; choice < options.choices(); choice++) {
            char letter = letterOf(choice);
            if (letter != 'b' && letter != 'p') {
                return choice;
            }
        }
        return NOTHING;
    }

    /** By rising bits, so that of sets of like many modules the lowest stays. */
    private int fewestModulesFor(int needed) {
        int best = NOTHING;
        for (int set = 0; set < 1 << moduleCount; set++) {
            if (haveJust(set, needed)
                    && (best < 0 || Integer.bitCount(set) < Integer.bitCount(best))) {
                best = set;
            }
        }
        return best;
    }

    private boolean haveJust(int set, int needed) {
        int together = 0;
        for (int module = 0; module < moduleCount; module++) {
            if (isIn(set, module)) {
                if ((together & modules[module]) != 0) {
                    return false;
                }
                together |= modules[module];
            }
        }
        return together == needed;
    }

    private void layOnBoard(int choice) {
        board.lay(circuits, circuits.layableOf(circuits.neededBy(choice)));
    }

    // What isSound checks

    private boolean waysAreLeast() {
        for (int start = 0; start < net.points; start++) {
            if (!trial.agreesFrom(start, false) || !trial.agreesFrom(start, true)) {
                return false;
            }
        }
        return true;
    }

    private boolean choicesAreSound() {
        for (int choice = 0; choice < options.choices(); choice++) {
            layOnBoard(choice);
            if (!board.keepsWhatGoesAhead(circuits)) {
                return false;
            }
            if (letterOf(choice) == 'p' && !provedOneHolds(circuits.neededBy(choice))) {
                return false;
            }
        }
        return true;
    }

    private boolean provedOneHolds(int needed) {
        connectors.seatAll(circuits, needed);
        return connectors.seatEachEnd(circuits, needed) && !isTooWide(needed);
    }

    /** The options and their rules; sets of options are bits. */
    private static final class Options {
        int count = 0;
        int rules = 0;
        private final int[] ones = new int[MOST_RULES];
        private final int[] others = new int[MOST_RULES];
        private final boolean[] force = new boolean[MOST_RULES];

        int addOption() {
            count++;
            return count - 1;
        }

        int addRule(int one, int other, boolean isForce) {
            ones[rules] = 1 << one;
            others[rules] = 1 << other;
            force[rules] = isForce;
            rules++;
            return rules;
        }

        /** How many choices there are, buildable or not. */
        int choices() {
            return 1 << count;
        }

        boolean allow(int choice) {
            for (int i = 0; i < rules; i++) {
                boolean hasOther = (choice & others[i]) != 0;
                if ((choice & ones[i]) != 0 && hasOther != force[i]) {
                    return false;
                }
            }
            return true;
        }
    }

    /**
     * The points and branches, and how far each point is from each other one. Far is the sum of
     * lengths times UNIT plus the number of branches, so that one number tells the least way by
     * both.
     */
    private static final class Net {
        /** Above the number of branches of any way. */
        private static final int UNIT = 16;
        /** Above what any way can be, and three times it is still an int. */
        private static final int NO_WAY = 1 << 20;

        int points = 0;
        int branches = 0;
        final int[] ones = new int[MOST_BRANCHES];
        final int[] others = new int[MOST_BRANCHES];
        final int[] lengths = new int[MOST_BRANCHES];
        final int[] bears = new int[MOST_BRANCHES];
        final boolean[] wet = new boolean[MOST_BRANCHES];
        private final int[] far = new int[MOST_POINTS * MOST_POINTS];
        private final int[] dryFar = new int[MOST_POINTS * MOST_POINTS];
        /** The points and branches of the way that was found last. */
        final int[] wayPoints = new int[MOST_POINTS];
        final int[] wayBranches = new int[MOST_POINTS];

        Net() {
            Arrays.fill(far, NO_WAY);
            Arrays.fill(dryFar, NO_WAY);
        }

        int addPoint() {
            far[points * MOST_POINTS + points] = 0;
            dryFar[points * MOST_POINTS + points] = 0;
            points++;
            return points - 1;
        }

        int addBranch(int one, int other, int length, boolean isWet, int mostWidth) {
            ones[branches] = one;
            others[branches] = other;
            lengths[branches] = length;
            wet[branches] = isWet;
            bears[branches] = mostWidth;
            shorten(far, branches);
            if (!isWet) {
                shorten(dryFar, branches);
            }
            branches++;
            return branches - 1;
        }

        /** A least way goes through the new branch at most once, one way round or the other. */
        private void shorten(int[] table, int branch) {
            int one = ones[branch];
            int other = others[branch];
            int step = stepOf(branch);
            for (int from = 0; from < points; from++) {
                for (int to = 0; to < points; to++) {
                    int there = table[from * MOST_POINTS + one] + step + table[other * MOST_POINTS + to];
                    int back = table[from * MOST_POINTS + other] + step + table[one * MOST_POINTS + to];
                    int before = table[from * MOST_POINTS + to];
                    table[from * MOST_POINTS + to] = Math.min(before, Math.min(there, back));
                }
            }
        }

        private int stepOf(int branch) {
            return lengths[branch] * UNIT + 1;
        }

        private int farOf(int from, int to, boolean isDry) {
            return isDry ? dryFar[from * MOST_POINTS + to] : far[from * MOST_POINTS + to];
        }

        /** The sum of lengths of the least way, NOTHING without a way. */
        int leastLength(int from, int to, boolean isDry) {
            int sum = farOf(from, to, isDry);
            return sum >= NO_WAY ? NOTHING : sum / UNIT;
        }

        /** Keeps the least way in the rows; returns how many branches it has, NOTHING without a way. */
        int findWay(int from, int to, boolean isDry) {
            int at = from;
            int steps = 0;
            wayPoints[0] = from;
            while (at != to && steps < MOST_POINTS - 1) {
                int branch = nextBranch(at, to, isDry);
                if (branch < 0) {
                    return NOTHING;
                }
                at = endFrom(branch, at);
                wayBranches[steps] = branch;
                steps++;
                wayPoints[steps] = at;
            }
            return at == to ? steps : NOTHING;
        }

        /**
         * The lowest branch to the lowest point by which a least way goes on. To choose so at each
         * step gives the lowest points where ways first differ, and then the lowest branches, as
         * all branches that qualify between two points are of like length.
         */
        private int nextBranch(int at, int to, boolean isDry) {
            int left = farOf(at, to, isDry);
            if (left >= NO_WAY) {
                return NOTHING;
            }
            int best = NOTHING;
            int bestPoint = MOST_POINTS;
            for (int branch = 0; branch < branches; branch++) {
                int next = isDry && wet[branch] ? NOTHING : endFrom(branch, at);
                if (next >= 0 && next < bestPoint && stepOf(branch) + farOf(next, to, isDry) == left) {
                    best = branch;
                    bestPoint = next;
                }
            }
            return best;
        }

        /** The end of a branch across from a point, NOTHING if the branch does not end there. */
        int endFrom(int branch, int point) {
            if (ones[branch] == point) {
                return others[branch];
            }
            return others[branch] == point ? ones[branch] : NOTHING;
        }

        /** The branches of the least way as bits, none without a way. */
        int branchesOfWay(int from, int to, boolean isDry) {
            int steps = findWay(from, to, isDry);
            int set = 0;
            for (int i = 0; i < steps; i++) {
                set |= 1 << wayBranches[i];
            }
            return set;
        }

        /** The sum of lengths of the least ways from ends to a point, NOTHING if one has no way. */
        int sumTo(int point, int[] ends, boolean isDry) {
            int sum = 0;
            for (int i = 0; i < ends.length; i++) {
                int length = leastLength(ends[i], point, isDry);
                if (length < 0) {
                    return NOTHING;
                }
                sum += length;
            }
            return sum;
        }

        /**
         * Where the wires from the ends meet, NOTHING if they cannot: of two ends the second one, of
         * three the point to which they have the least sum, of like ones the lowest.
         */
        int meetingOf(int[] ends, boolean isDry) {
            int best = NOTHING;
            int least = NO_WAY;
            for (int point = 0; point < points; point++) {
                int sum = ends.length == MOST_ENDS || ends[1] == point ? sumTo(point, ends, isDry) : NOTHING;
                if (sum >= 0 && sum < least) {
                    best = point;
                    least = sum;
                }
            }
            return best;
        }
    }

    /**
     * Tries all ways from a start and keeps the best one to each point, to check those that the
     * net finds. A way that is longer than one that the net tells for its last point is not gone on
     * with: either the net is right, and no least way begins so, or it tells too little for that
     * point, and the check finds this there. Where the net tells no way, all are gone on with.
     */
    private static final class WayTrial {
        private final Net net;
        private boolean isDry = false;
        private final int[] points = new int[MOST_POINTS];
        private final int[] branches = new int[MOST_POINTS];
        private final int[] bestLengths = new int[MOST_POINTS];
        private final int[] bestSteps = new int[MOST_POINTS];
        private final int[] bestPoints = new int[MOST_POINTS * MOST_POINTS];
        private final int[] bestBranches = new int[MOST_POINTS * MOST_POINTS];

        WayTrial(Net net) {
            this.net = net;
        }

        boolean agreesFrom(int start, boolean onlyDry) {
            isDry = onlyDry;
            Arrays.fill(bestLengths, NOTHING);
            points[0] = start;
            tryOn(this, 0, 0, 1 << start);
            for (int to = 0; to < net.points; to++) {
                if (!agrees(start, to)) {
                    return false;
                }
            }
            return true;
        }

        /** Goes on from the way in the rows, which has some steps; no point is seen twice. */
        private static void tryOn(WayTrial trial, int steps, int length, int seen) {
            Net net = trial.net;
            int at = trial.points[steps];
            int told = net.leastLength(trial.points[0], at, trial.isDry);
            if (told >= 0 && length > told) {
                return;
            }
            trial.keepIfBetter(at, steps, length);
            if (steps >= MOST_POINTS - 1) {
                return;
            }
            for (int branch = 0; branch < net.branches; branch++) {
                int next = trial.isDry && net.wet[branch] ? NOTHING : net.endFrom(branch, at);
                if (next >= 0 && !isIn(seen, next)) {
                    trial.branches[steps] = branch;
                    trial.points[steps + 1] = next;
                    tryOn(trial, steps + 1, length + net.lengths[branch], seen | 1 << next);
                }
            }
        }

        private void keepIfBetter(int to, int steps, int length) {
            if (!isBetter(to, steps, length)) {
                return;
            }
            bestLengths[to] = length;
            bestSteps[to] = steps;
            for (int i = 0; i < MOST_POINTS; i++) {
                bestPoints[to * MOST_POINTS + i] = points[i];
                bestBranches[to * MOST_POINTS + i] = branches[i];
            }
        }

        private boolean isBetter(int to, int steps, int length) {
            if (bestLengths[to] < 0 || length != bestLengths[to]) {
                return bestLengths[to] < 0 || length < bestLengths[to];
            }
            if (steps != bestSteps[to]) {
                return steps < bestSteps[to];
            }
            for (int i = 0; i <= steps; i++) {
                if (points[i] != bestPoints[to * MOST_POINTS + i]) {
                    return points[i] < bestPoints[to * MOST_POINTS + i];
                }
            }
            for (int i = 0; i < steps; i++) {
                if (branches[i] != bestBranches[to * MOST_POINTS + i]) {
                    return branches[i] < bestBranches[to * MOST_POINTS + i];
                }
            }
            return false;
        }

        private boolean agrees(int start, int to) {
            if (net.leastLength(start, to, isDry) != bestLengths[to]) {
                return false;
            }
            int steps = net.findWay(start, to, isDry);
            if (bestLengths[to] < 0) {
                return steps < 0;
            }
            if (steps != bestSteps[to]) {
                return false;
            }
            for (int i = 0; i < steps; i++) {
                if (net.wayPoints[i + 1] != bestPoints[to * MOST_POINTS + i + 1]
                        || net.wayBranches[i] != bestBranches[to * MOST_POINTS + i]) {
                    return false;
                }
            }
            return true;
        }
    }

    /**
     * A circuit, and how it is laid in the net as it stands. All its wires go from an end to one
     * meeting: its splice, or the second end if it has two.
     */
    private static final class Circuit {
        final int[] ends;
        final int ownSize;
        final int amperes;
        final boolean isDry;
        int all = 0;
        int none = 0;
        int sizeNow;
        /** Those that go ahead of it on the board, as bits. */
        int ahead = 0;
        int meeting = NOTHING;
        int wireCount = 0;
        int lengthSum = 0;
        int branchSet = 0;
        /** By ends; 0 where no wire begins, as a wire has a length of 1 at least. */
        final int[] lengths = new int[MOST_ENDS];
        final int[] branches = new int[MOST_ENDS];

        Circuit(int[] ends, int size, int amperes, boolean isDry) {
            this.ends = ends;
            this.ownSize = size;
            this.sizeNow = size;
            this.amperes = amperes;
            this.isDry = isDry;
        }

        boolean isNeededBy(int choice) {
            return (choice & all) == all && (choice & none) == 0;
        }

        boolean isLayable() {
            return meeting >= 0;
        }

        void layIn(Net net) {
            meeting = net.meetingOf(ends, isDry);
            wireCount = 0;
            lengthSum = 0;
            branchSet = 0;
            for (int end = 0; end < ends.length; end++) {
                lengths[end] = 0;
                branches[end] = 0;
                if (meeting >= 0 && ends[end] != meeting) {
                    lengths[end] = net.leastLength(ends[end], meeting, isDry);
                    branches[end] = net.branchesOfWay(ends[end], meeting, isDry);
                    wireCount++;
                    lengthSum += lengths[end];
                    branchSet |= branches[end];
                }
            }
        }

        /** NOTHING if there is no such wire. */
        int lengthOfWire(int wire) {
            int left = wire;
            for (int end = 0; end < ends.length; end++) {
                if (lengths[end] > 0) {
                    if (left == 0) {
                        return lengths[end];
                    }
                    left--;
                }
            }
            return NOTHING;
        }

        /** Counts each wire, so that two through one branch count twice. */
        int wiresThrough(int branch) {
            if (!isIn(branchSet, branch)) {
                return 0;
            }
            int found = 0;
            for (int end = 0; end < ends.length; end++) {
                if (isIn(branches[end], branch)) {
                    found++;
                }
            }
            return found;
        }

        /** The drop at the second or third end of one that can be laid. */
        int dropAt(int end) {
            if (end < 1 || end >= ends.length || sizeNow < 1) {
                return 0;
            }
            return amperes * (lengths[0] + lengths[end]) / sizeNow;
        }
    }

    /** All circuits, with their changes; sets of circuits are bits. */
    private static final class Circuits {
        int count = 0;
        /** None is null below count. */
        final Circuit[] list = new Circuit[MOST_CIRCUITS];
        int toldChassis = 0;
        int changes = 0;
        private final int[] changed = new int[MOST_CHANGES];
        private final int[] changedFrom = new int[MOST_CHANGES];
        private final int[] changedSizes = new int[MOST_CHANGES];

        int add(Circuit circuit, Net net) {
            list[count] = circuit;
            count++;
            circuit.layIn(net);
            rankAll();
            return count - 1;
        }

        void layAll(Net net) {
            for (int i = 0; i < count; i++) {
                list[i].layIn(net);
            }
            rankAll();
        }

        int addChange(int circuit, int from, int newSize) {
            changed[changes] = circuit;
            changedFrom[changes] = from;
            changedSizes[changes] = newSize;
            changes++;
            sizeAll();
            return changes;
        }

        int tellChassis(int newChassis) {
            int before = toldChassis;
            toldChassis = newChassis;
            sizeAll();
            return before;
        }

        private void sizeAll() {
            for (int i = 0; i < count; i++) {
                list[i].sizeNow = sizeAt(i, toldChassis);
            }
            rankAll();
        }

        int sizeAt(int circuit, int atChassis) {
            int found = list[circuit].ownSize;
            int from = NOTHING;
            for (int i = 0; i < changes; i++) {
                if (changed[i] == circuit && changedFrom[i] <= atChassis && changedFrom[i] >= from) {
                    found = changedSizes[i];
                    from = changedFrom[i];
                }
            }
            return found;
        }

        /** Tells each circuit again which others go ahead of it. */
        private void rankAll() {
            for (int i = 0; i < count; i++) {
                int ahead = 0;
                for (int j = 0; j < count; j++) {
                    if (goesAhead(j, i)) {
                        ahead |= 1 << j;
                    }
                }
                list[i].ahead = ahead;
            }
        }

        boolean goesAhead(int one, int other) {
            Circuit first = list[one];
            Circuit second = list[other];
            if (one == other || (first.branchSet & second.branchSet) == 0) {
                return false;
            }
            return first.sizeNow > second.sizeNow || first.sizeNow == second.sizeNow && one < other;
        }

        int allOfThem() {
            return (1 << count) - 1;
        }

        int neededBy(int choice) {
            int set = 0;
            for (int i = 0; i < count; i++) {
                if (list[i].isNeededBy(choice)) {
                    set |= 1 << i;
                }
            }
            return set;
        }

        int layableOf(int needed) {
            int set = 0;
            for (int i = 0; i < count; i++) {
                if (isIn(needed, i) && list[i].isLayable()) {
                    set |= 1 << i;
                }
            }
            return set;
        }

        /** One that cannot be laid has no wires, and so no width. */
        int widthOf(int needed, int branch) {
            int sum = 0;
            for (int i = 0; i < count; i++) {
                if (isIn(needed, i)) {
                    sum += list[i].sizeNow * list[i].wiresThrough(branch);
                }
            }
            return sum;
        }

        int greatestDrop(int needed) {
            int greatest = 0;
            for (int i = 0; i < count; i++) {
                if (isIn(needed, i) && list[i].isLayable()) {
                    for (int end = 1; end < list[i].ends.length; end++) {
                        greatest = Math.max(greatest, list[i].dropAt(end));
                    }
                }
            }
            return greatest;
        }

        /** The sum of size times length; one that cannot be laid has no length. */
        int copperOf(int needed) {
            int sum = 0;
            for (int i = 0; i < count; i++) {
                if (isIn(needed, i)) {
                    sum += list[i].sizeNow * list[i].lengthSum;
                }
            }
            return sum;
        }

        boolean splicesAreBest(Net net) {
            for (int i = 0; i < count; i++) {
                if (list[i].ends.length == MOST_ENDS && !isBestSplice(net, list[i])) {
                    return false;
                }
            }
            return true;
        }

        private static boolean isBestSplice(Net net, Circuit circuit) {
            int splice = circuit.meeting;
            int least = splice < 0 ? NOTHING : net.sumTo(splice, circuit.ends, circuit.isDry);
            for (int point = 0; point < net.points; point++) {
                int sum = net.sumTo(point, circuit.ends, circuit.isDry);
                if (sum >= 0 && (splice < 0 || sum < least || sum == least && point < splice)) {
                    return false;
                }
            }
            return splice < 0 || least >= 0;
        }
    }

    /** A connector, and what is in its cavities by the choice that was seated last. */
    private static final class Connector {
        final int point;
        final int most;
        final boolean isSealed;
        /** The circuits by cavities; those from taken on are free, as the lowest is taken first. */
        final int[] held;
        int taken = 0;

        Connector(int point, int cavities, int most, boolean isSealed) {
            this.point = point;
            this.most = most;
            this.isSealed = isSealed;
            this.held = new int[cavities];
        }

        boolean canTake(Circuit circuit) {
            return taken < held.length && circuit.sizeNow <= most && (isSealed || circuit.isDry);
        }

        boolean holds(int circuit) {
            for (int i = 0; i < taken && i < held.length; i++) {
                if (held[i] == circuit) {
                    return true;
                }
            }
            return false;
        }
    }

    private static final class Connectors {
        int count = 0;
        /** None is null below count. */
        final Connector[] list = new Connector[MOST_CONNECTORS];

        int add(Connector connector) {
            list[count] = connector;
            count++;
            return count - 1;
        }

        /** Gives the ends of circuits their cavities; returns how many ends are loose. */
        int seatAll(Circuits circuits, int needed) {
            for (int i = 0; i < count; i++) {
                list[i].taken = 0;
            }
            int looseEnds = 0;
            for (int i = 0; i < circuits.count; i++) {
                if (isIn(needed, i)) {
                    looseEnds += seatEnds(circuits.list[i], i);
                }
            }
            return looseEnds;
        }

        private int seatEnds(Circuit circuit, int number) {
            int looseEnds = 0;
            for (int end = 0; end < circuit.ends.length; end++) {
                int point = circuit.ends[end];
                if (isAt(point) && !isSeated(circuit, number, point)) {
                    looseEnds++;
                }
            }
            return looseEnds;
        }

        private boolean isAt(int point) {
            for (int i = 0; i < count; i++) {
                if (list[i].point == point) {
                    return true;
                }
            }
            return false;
        }

        private boolean isSeated(Circuit circuit, int number, int point) {
            for (int i = 0; i < count; i++) {
                Connector connector = list[i];
                if (connector.point == point && connector.canTake(circuit)) {
                    connector.held[connector.taken] = number;
                    connector.taken++;
                    return true;
                }
            }
            return false;
        }

        /** Whether each end at a point with connectors is in a cavity there, as seated last. */
        boolean seatEachEnd(Circuits circuits, int needed) {
            for (int i = 0; i < circuits.count; i++) {
                int[] ends = circuits.list[i].ends;
                for (int end = 0; end < ends.length; end++) {
                    if (isIn(needed, i) && isAt(ends[end]) && !isHeldAt(ends[end], i)) {
                        return false;
                    }
                }
            }
            return true;
        }

        private boolean isHeldAt(int point, int circuit) {
            for (int i = 0; i < count; i++) {
                if (list[i].point == point && list[i].holds(circuit)) {
                    return true;
                }
            }
            return false;
        }
    }

    /**
     * The machine that cuts wires. A kind of wires, of one size and length, is one number, which
     * rises in the order of cutting: by rising sizes, of one size by falling lengths.
     */
    private static final class Machine {
        private static final int KINDS_OF_SIZE = 1000;
        /** A circuit has at most this many kinds of wires for its own size and for each change. */
        private static final int MOST_KINDS = (MOST_CIRCUITS + MOST_CHANGES) * MOST_ENDS;
        private static final int COST_OF_SIZE = 5;
        private static final int COST_OF_LENGTH = 1;

        int orders = 0;
        private final int[] choices = new int[MOST_ORDERS];
        private final int[] chassisOf = new int[MOST_ORDERS];
        private int stockKinds = 0;
        private int[] stockKind = new int[MOST_ORDERS];
        private int[] stockMany = new int[MOST_ORDERS];
        /** What is to be made for the orders, kinds by rising numbers. */
        private int kinds = 0;
        private final int[] kind = new int[MOST_KINDS];
        private final int[] many = new int[MOST_KINDS];

        int addOrder(int choice, int atChassis) {
            choices[orders] = choice;
            chassisOf[orders] = atChassis;
            orders++;
            return orders;
        }

        private static int kindOf(int size, int length) {
            return size * KINDS_OF_SIZE + KINDS_OF_SIZE - 1 - length;
        }

        private int placeInStock(int wanted) {
            for (int i = 0; i < stockKinds; i++) {
                if (stockKind[i] == wanted) {
                    return i;
                }
            }
            return NOTHING;
        }

        int stocked(int size, int length) {
            return stockedOf(kindOf(size, length));
        }

        private int stockedOf(int wanted) {
            int place = placeInStock(wanted);
            return place < 0 ? 0 : stockMany[place];
        }

        /** The rows grow at most to all sizes and lengths, as a kind keeps its place. */
        int putInStock(int size, int length, int more) {
            int wanted = kindOf(size, length);
            int place = placeInStock(wanted);
            if (place < 0) {
                if (stockKinds >= stockKind.length) {
                    stockKind = Arrays.copyOf(stockKind, 2 * stockKinds);
                    stockMany = Arrays.copyOf(stockMany, 2 * stockKinds);
                }
                place = stockKinds;
                stockKind[place] = wanted;
                stockMany[place] = 0;
                stockKinds++;
            }
            stockMany[place] += more;
            return stockMany[place];
        }

        int countToCut(Circuits circuits) {
            collect(circuits);
            int sum = 0;
            for (int i = 0; i < kinds; i++) {
                sum += many[i] - fromStock(i);
            }
            return sum;
        }

        int cutAll(Circuits circuits) {
            collect(circuits);
            int cost = 0;
            int sizeAhead = NOTHING;
            for (int i = 0; i < kinds; i++) {
                int old = fromStock(i);
                takeFromStock(kind[i], old);
                int fresh = many[i] - old;
                if (fresh > 0) {
                    int size = kind[i] / KINDS_OF_SIZE;
                    cost += fresh + (size != sizeAhead ? COST_OF_SIZE : COST_OF_LENGTH);
                    sizeAhead = size;
                }
            }
            orders = 0;
            return cost;
        }

        private int fromStock(int place) {
            return Math.min(many[place], stockedOf(kind[place]));
        }

        private void takeFromStock(int wanted, int taken) {
            int place = placeInStock(wanted);
            if (place >= 0) {
                stockMany[place] -= taken;
            }
        }

        private void collect(Circuits circuits) {
            kinds = 0;
            for (int i = 0; i < orders; i++) {
                for (int circuit = 0; circuit < circuits.count; circuit++) {
                    if (circuits.list[circuit].isNeededBy(choices[i])) {
                        addWires(circuits.list[circuit], circuits.sizeAt(circuit, chassisOf[i]));
                    }
                }
            }
        }

        private void addWires(Circuit circuit, int size) {
            for (int end = 0; end < circuit.ends.length; end++) {
                if (circuit.lengths[end] > 0) {
                    addWire(kindOf(size, circuit.lengths[end] + CUT_ADDITION));
                }
            }
        }

        private void addWire(int wanted) {
            int place = 0;
            while (place < kinds && kind[place] < wanted) {
                place++;
            }
            if (place < kinds && kind[place] == wanted) {
                many[place]++;
            } else if (kinds < MOST_KINDS) {
                System.arraycopy(kind, place, kind, place + 1, kinds - place);
                System.arraycopy(many, place, many, place + 1, kinds - place);
                kind[place] = wanted;
                many[place] = 1;
                kinds++;
            }
        }
    }

    /** The board, with the circuits in the order in which they were laid last. */
    private static final class Board {
        int count = 0;
        final int[] row = new int[MOST_CIRCUITS];
        /** The sum of times of the first circuits in the row, by how many they are. */
        private final int[] until = new int[MOST_CIRCUITS + 1];
        /** The least greatest time of a place for the first circuits, by how many they are. */
        private final int[] least = new int[MOST_CIRCUITS + 1];

        void lay(Circuits circuits, int layable) {
            int left = layable;
            count = 0;
            while (left != 0 && count < MOST_CIRCUITS) {
                int next = nextOf(circuits, left);
                if (next < 0) {
                    return;
                }
                row[count] = next;
                count++;
                left &= ~(1 << next);
            }
        }

        private static int nextOf(Circuits circuits, int left) {
            int best = NOTHING;
            int bestSum = NOTHING;
            for (int i = 0; i < circuits.count; i++) {
                Circuit circuit = circuits.list[i];
                if (isIn(left, i) && (circuit.ahead & left) == 0 && circuit.lengthSum > bestSum) {
                    best = i;
                    bestSum = circuit.lengthSum;
                }
            }
            return best;
        }

        /** Parts the row place by place: what is best for the first circuits serves the next place. */
        int leastGreatestTime(Circuits circuits, int places) {
            sumTimes(circuits);
            for (int some = 0; some <= count; some++) {
                least[some] = until[some];
            }
            for (int place = 2; place <= places; place++) {
                for (int some = count; some >= 0; some--) {
                    least[some] = leastWithOneMore(some);
                }
            }
            return least[count];
        }

        private void sumTimes(Circuits circuits) {
            until[0] = 0;
            for (int i = 0; i < count; i++) {
                Circuit circuit = circuits.list[row[i]];
                until[i + 1] = until[i] + circuit.lengthSum + TIME_OF_WIRE * circuit.wireCount;
            }
        }

        private int leastWithOneMore(int some) {
            int best = least[some];
            for (int before = 0; before < some; before++) {
                best = Math.min(best, Math.max(least[before], until[some] - until[before]));
            }
            return best;
        }

        boolean keepsWhatGoesAhead(Circuits circuits) {
            for (int i = 0; i < count; i++) {
                for (int j = i + 1; j < count; j++) {
                    if (circuits.goesAhead(row[j], row[i])) {
                        return false;
                    }
                }
            }
            return true;
        }
    }

    /** The faults that are told. */
    private static final class Faults {
        int count = 0;
        private int openSet = 0;
        private int shorts = 0;
        private final int[] pairs = new int[MOST_FAULTS];

        int addOpen(int circuit) {
            openSet |= 1 << circuit;
            count++;
            return count;
        }

        int addShort(int one, int other) {
            pairs[shorts] = 1 << one | 1 << other;
            shorts++;
            count++;
            return count;
        }

        boolean isOpen(int circuit) {
            return isIn(openSet, circuit);
        }

        int clear() {
            int before = count;
            count = 0;
            openSet = 0;
            shorts = 0;
            return before;
        }

        /** The circuit and all that it touches; each round over the shorts reaches one more. */
        int touchedBy(int circuit) {
            int touched = 1 << circuit;
            for (int round = 0; round < shorts; round++) {
                for (int i = 0; i < shorts; i++) {
                    if ((pairs[i] & touched) != 0) {
                        touched |= pairs[i];
                    }
                }
            }
            return touched;
        }
    }
}
