import java.lang.reflect.Method;
import java.util.ArrayList;
import java.util.Arrays;
import java.util.HashMap;
import java.util.LinkedHashSet;
import java.util.List;
import java.util.Map;
import java.util.Set;
import java.util.TreeMap;
import java.util.TreeSet;
import java.util.function.Predicate;

/**
 * "A method that throws an exception changes nothing. If several conditions of a method apply, the
 * exception that is listed first is thrown."
 *
 * <p>Each sentence of the document that begins with Throws stands here as what it asks of the
 * arguments and of what is told. Each method is called with all arguments from just outside to just
 * inside of their bounds, with the least and greatest int among them, on a vehicle of which nothing
 * is told, one of something and one of everything. Each call must throw just what the first sentence
 * that holds names, or answer as PlainVehicle does. After refused calls of each kind, all that can
 * be asked or told later is answered as if the call had not been made.
 */
public final class RefusedTest extends Answers {
    private static final int CALLS_OF_VEHICLE = 500;
    private static final int TWINS_OF_A_KIND = 6;

    /** By the method and the numbers of two sentences, those that cannot both hold. */
    private static final Set<String> NEVER_BOTH = Set.of("way 01", "splice 01", "inCavity 02",
            "inCavity 12", "built 01", "order 01", "open 01");
    /** The choice without options keeps all rules, so that always one is buildable. */
    private static final Set<String> NEVER_ALONE = Set.of("provedShare 0");

    /** A call on a vehicle, and what there is on that vehicle. */
    private record Case(Base base, PlainVehicle plain, Call call) {
        int number(int argument) {
            return (Integer) call.arguments().get(argument);
        }

        boolean flag(int argument) {
            return (Boolean) call.arguments().get(argument);
        }

        char sign(int argument) {
            return (Character) call.arguments().get(argument);
        }

        boolean lacks(String part, int argument) {
            return !base.has(part, number(argument));
        }

        boolean isChoice(int argument) {
            return base.hasAll("option", number(argument));
        }

        boolean isOutside(int argument, int least, int greatest) {
            return number(argument) < least || number(argument) > greatest;
        }

        boolean isFull(String part, int most) {
            return base.count(part) >= most;
        }

        /** The ends of a circuit that there is. */
        int ends(int circuit) {
            int found = 0;
            for (Call told : base.told) {
                if (told.name().equals("circuit")) {
                    if (found == circuit) {
                        return told.arguments().get(2).equals(-1) ? 2 : 3;
                    }
                    found++;
                }
            }
            throw new IllegalStateException("no circuit " + circuit);
        }
    }

    private record Refusal(Class<? extends Exception> exception, String sentence, Predicate<Case> holds) {
        String line() {
            return "Throws `" + exception.getSimpleName() + "` if " + sentence;
        }
    }

    /** A method, by its promise; what it takes is told by letters, see values. */
    private record Asked(int promise, String name, String kinds, List<Refusal> refusals) { }

    private static final List<Asked> METHODS = new ArrayList<>();

    private static Refusal when(Class<? extends Exception> exception, String sentence, Predicate<Case> holds) {
        return new Refusal(exception, sentence, holds);
    }

    private static void add(int promise, String name, String kinds, Refusal... refusals) {
        METHODS.add(new Asked(promise, name, kinds, List.of(refusals)));
    }

    private static Refusal noChoice(int argument) {
        return when(ARGUMENT, "it has an option that there is not", c -> !c.isChoice(argument));
    }

    private static Refusal noCircuit() {
        return when(INDEX, "there is no such circuit", c -> c.lacks("circuit", 0));
    }

    private static Refusal noConnector() {
        return when(INDEX, "there is no such connector", c -> c.lacks("connector", 1));
    }

    private static Refusal noPointForEither() {
        return when(INDEX, "there is no such point, for either", c -> c.lacks("point", 0) || c.lacks("point", 1));
    }

    private static Refusal outOfRange(int argument, int least, int greatest) {
        return when(ARGUMENT, "it is out of range", c -> c.isOutside(argument, least, greatest));
    }

    private static void addOptionsAndNet() {
        add(2, "option", "", when(STATE, "there are 8", c -> c.isFull("option", 8)));
        add(3, "rule", "ook",
                when(INDEX, "there is no such option, for either", c -> c.lacks("option", 0) || c.lacks("option", 1)),
                when(ARGUMENT, "both are the same, or there is no such kind",
                        c -> c.number(0) == c.number(1) || c.sign(2) != 'x' && c.sign(2) != 'f'),
                when(STATE, "there are 12", c -> c.isFull("rule", 12)));
        add(4, "isBuildable", "c", noChoice(0));
        add(6, "point", "", when(STATE, "there are 10", c -> c.isFull("point", 10)));
        add(7, "branch", "ppLzW", noPointForEither(),
                when(ARGUMENT, "both are the same, or a number is out of range", c ->
                        c.number(0) == c.number(1) || c.isOutside(2, 1, 99) || c.isOutside(4, 1, 99)),
                when(STATE, "there are 16", c -> c.isFull("branch", 16)));
        add(8, "way", "ppz", noPointForEither(), when(ELEMENT, "there is none", RefusedTest::hasNoWay));
        add(9, "wayPoint", "ppzx", noPointForEither(), when(ELEMENT, "there is no way, or no such index", c ->
                c.isOutside(3, 0, 9) || hasNoWay(c) || hasNoIndex(c)));
    }

    private static boolean arePoints(Case c) {
        return !c.lacks("point", 0) && !c.lacks("point", 1);
    }

    private static boolean hasNoWay(Case c) {
        return arePoints(c) && c.plain.least(c.number(0), c.number(1), c.flag(2)) == null;
    }

    private static boolean hasNoIndex(Case c) {
        return arePoints(c) && !hasNoWay(c)
                && c.number(3) >= c.plain.least(c.number(0), c.number(1), c.flag(2)).points().size();
    }

    private static void addCircuits() {
        add(10, "circuit", "ppPSAz",
                when(INDEX, "there is no such point, for any", c ->
                        c.lacks("point", 0) || c.lacks("point", 1) || c.number(2) != -1 && c.lacks("point", 2)),
                when(ARGUMENT, "two are the same, or a number is out of range", c ->
                        c.number(0) == c.number(1) || c.number(0) == c.number(2) || c.number(1) == c.number(2)
                                || c.isOutside(3, 1, 9) || c.isOutside(4, 0, 99)),
                when(STATE, "there are 12", c -> c.isFull("circuit", 12)));
        add(11, "need", "icc", noCircuit(),
                when(ARGUMENT, "there is no such option", c -> !c.isChoice(1) || !c.isChoice(2)));
        add(12, "needs", "ci", when(INDEX, "there is no such circuit", c -> c.lacks("circuit", 1)), noChoice(0));
        add(13, "canBeLaid", "i", noCircuit());
        add(14, "splice", "i", noCircuit(), when(ELEMENT, "it has two ends, or cannot be laid", c ->
                !c.lacks("circuit", 0) && (c.ends(c.number(0)) == 2 || c.plain.wires(c.number(0)) == 0)));
        add(15, "wires", "i", noCircuit());
        add(16, "wireLength", "iw", noCircuit(), when(ELEMENT, "there is no such wire", c ->
                c.isOutside(1, 0, 2) || !c.lacks("circuit", 0) && c.number(1) >= c.plain.wires(c.number(0))));
        add(17, "goesThrough", "ib", when(INDEX, "there is no such circuit or branch",
                c -> c.lacks("circuit", 0) || c.lacks("branch", 1)));
        add(18, "size", "i", noCircuit());
        add(19, "drop", "ie", noCircuit(), when(ELEMENT, "it has no such end, or cannot be laid", c ->
                c.isOutside(1, 1, 2) || !c.lacks("circuit", 0)
                        && (c.number(1) >= c.ends(c.number(0)) || c.plain.wires(c.number(0)) == 0)));
        add(20, "limit", "T", outOfRange(0, 0, 9999));
        add(21, "width", "cb", when(INDEX, "there is no such branch", c -> c.lacks("branch", 1)), noChoice(0));
    }

    private static void addConnectorsAndProofs() {
        add(22, "connector", "pCSz", when(INDEX, "there is no such point", c -> c.lacks("point", 0)),
                when(ARGUMENT, "a number is out of range", c -> c.isOutside(1, 1, 9) || c.isOutside(2, 1, 9)),
                when(STATE, "there are 6", c -> c.isFull("connector", 6)));
        add(23, "inCavity", "cnv",
                when(INDEX, "there is no such connector or cavity", c -> c.lacks("connector", 1) || hasNoCavity(c)),
                noChoice(0), when(ELEMENT, "it is free", RefusedTest::isFree));
        add(24, "plugs", "cn", noConnector(), noChoice(0));
        add(25, "loose", "c", noChoice(0));
        add(26, "proof", "c", noChoice(0));
        add(27, "unproved", "", when(ELEMENT, "there is none", c -> {
            boolean isNone = true;
            for (int choice = 0; choice < 1 << c.base.count("option"); choice++) {
                isNone &= c.plain.proof(choice) == 'p' || c.plain.proof(choice) == 'b';
            }
            return isNone;
        }));
        add(28, "module", "m",
                when(ARGUMENT, "there is no such circuit, or none at all", c ->
                        c.number(0) == 0 || !c.base.hasAll("circuit", c.number(0))),
                when(STATE, "there are 6", c -> c.isFull("module", 6)));
        add(29, "built", "c", noChoice(0), when(ELEMENT, "of none so", c -> c.isChoice(0) && isOfNone(c)));
    }

    private static boolean hasNoCavity(Case c) {
        return c.isOutside(2, 0, 8) || !c.lacks("connector", 1)
                && c.number(2) >= c.plain.cavities(c.number(1));
    }

    private static boolean isFree(Case c) {
        return c.isChoice(0) && !c.lacks("connector", 1) && !hasNoCavity(c)
                && !c.plain.isTaken(c.number(0), c.number(1), c.number(2));
    }

    private static boolean isOfNone(Case c) {
        for (int set = 0; set < 1 << c.base.count("module"); set++) {
            if (c.plain.isJust(set, c.number(0))) {
                return false;
            }
        }
        return true;
    }

    private static void addMachineAndBoard() {
        add(30, "order", "c", noChoice(0), when(UNSUPPORTED, "the choice is not buildable", c ->
                        c.isChoice(0) && !c.plain.isBuildable(c.number(0))),
                when(STATE, "10 are", c -> c.isFull("order", 10)));
        add(31, "stock", "SKM", when(ARGUMENT, "a number is out of range", c ->
                c.isOutside(0, 1, 9) || c.isOutside(1, 3, 999) || c.isOutside(2, 1, 20)));
        add(32, "inStock", "SK", when(ARGUMENT, "a number is out of range", c ->
                c.isOutside(0, 1, 9) || c.isOutside(1, 3, 999)));
        add(34, "cut", "", when(STATE, "nothing is ordered", c -> c.base.count("order") == 0));
        add(35, "laid", "c", noChoice(0));
        add(36, "laidAt", "cy", noChoice(0), when(ELEMENT, "there is no such place", c ->
                c.isOutside(1, 0, 11) || c.isChoice(0) && c.number(1) >= c.plain.laid(c.number(0))));
        add(37, "lineTime", "cY",
                when(ARGUMENT, "it has an option that there is not, or the number is out of range", c ->
                        !c.isChoice(0) || c.isOutside(1, 1, 4)));
    }

    private static void addFaultsAndChanges() {
        add(38, "open", "i", noCircuit(),
                when(UNSUPPORTED, "it is open", c -> c.base.told.contains(Call.of("open", c.number(0)))),
                when(STATE, "8 are told", c -> c.base.faults() >= 8));
        Refusal noCircuitForEither = when(INDEX, "there is no such circuit, for either", c ->
                c.lacks("circuit", 0) || c.lacks("circuit", 1));
        add(39, "shorted", "ii", noCircuitForEither,
                when(ARGUMENT, "both are the same", c -> c.number(0) == c.number(1)),
                when(STATE, "8 are told", c -> c.base.faults() >= 8));
        add(41, "leads", "i", noCircuit());
        add(42, "touch", "ii", noCircuitForEither);
        add(43, "tests", "c", noChoice(0));
        add(44, "change", "iHS", noCircuit(),
                when(ARGUMENT, "a number is out of range", c -> c.isOutside(1, 0, 9999) || c.isOutside(2, 1, 9)),
                when(STATE, "there are 8", c -> c.isFull("change", 8)));
        add(45, "chassis", "H", outOfRange(0, 0, 9999));
        add(46, "cost", "c", noChoice(0));
        add(47, "costOf", "o", when(INDEX, "there is no such option", c -> c.lacks("option", 0)));
        add(49, "provedShare", "", when(ARITHMETIC, "there are none", c -> c.plain.buildable() == 0));
        add(50, "meanLength", "", when(ARITHMETIC, "there are none", c -> {
            int wires = 0;
            for (int circuit = 0; circuit < c.base.count("circuit"); circuit++) {
                wires += c.plain.wires(circuit);
            }
            return wires == 0;
        }));
    }

    /** The edges of a range: just outside, at, and just inside of both bounds, and the utmost ints. */
    private static List<Object> edges(int least, int greatest) {
        Set<Integer> found = new TreeSet<>(List.of(LEAST_INT, -1, 0, GREATEST_INT));
        for (int bound : new int[] {least, greatest}) {
            found.addAll(List.of(bound - 1, bound, bound + 1));
        }
        return new ArrayList<>(found);
    }

    private static List<Object> sets(int many) {
        Set<Integer> found = new LinkedHashSet<>(List.of(LEAST_INT, -1, -(1 << many), 0, 1, 1 << many,
                (1 << many) - 1, (1 << many) + 1, 1 << 30, GREATEST_INT));
        if (many > 1) {
            found.addAll(List.of(2, (1 << many) - 2, 1 << many - 1));
        }
        return new ArrayList<>(found);
    }

    private static List<Object> values(char kind, Base base) {
        return switch (kind) {
            case 'o' -> edges(0, base.count("option") - 1);
            case 'p', 'P' -> {
                List<Object> points = edges(0, base.count("point") - 1);
                points.add(-2);
                points.add(base.count("point") / 2);
                yield points;
            }
            case 'b' -> edges(0, base.count("branch") - 1);
            case 'i' -> edges(0, base.count("circuit") - 1);
            case 'n' -> edges(0, base.count("connector") - 1);
            case 'c' -> sets(base.count("option"));
            case 'm' -> sets(base.count("circuit"));
            case 'z' -> List.of(false, true);
            case 'k' -> List.of('x', 'f', 'X', 'F', 'w', 'y', 'e', 'g', (char) 0, Character.MAX_VALUE);
            case 'L', 'W' -> edges(1, 99);
            case 'S', 'C' -> edges(1, 9);
            case 'A' -> edges(0, 99);
            case 'T', 'H' -> edges(0, 9999);
            case 'v', 'x', 'y', 'w', 'e' -> numbers(kind == 'w' || kind == 'e' ? 3 : 12);
            case 'K' -> edges(3, 999);
            case 'M' -> edges(1, 20);
            case 'Y' -> edges(1, 4);
            default -> throw new IllegalStateException("no kind " + kind);
        };
    }

    /** All from -1 to a number, and the utmost ints. */
    private static List<Object> numbers(int last) {
        List<Object> found = new ArrayList<>(List.of(LEAST_INT, GREATEST_INT));
        for (int i = -1; i <= last; i++) {
            found.add(i);
        }
        return found;
    }

    private static List<Call> allCalls(Asked asked, Base base) {
        List<List<Object>> rows = List.of(List.of());
        for (char kind : asked.kinds.toCharArray()) {
            List<List<Object>> longer = new ArrayList<>();
            for (List<Object> row : rows) {
                for (Object value : values(kind, base)) {
                    List<Object> next = new ArrayList<>(row);
                    next.add(value);
                    longer.add(next);
                }
            }
            rows = longer;
        }
        List<Call> calls = new ArrayList<>();
        for (List<Object> row : rows) {
            calls.add(new Call(asked.name, row));
        }
        return calls;
    }

    /** The face must name the exceptions in the order of the document, which must be told here. */
    private static void checkSentences(Asked asked) {
        List<String> lines = new ArrayList<>(Document.promise(asked.promise));
        require(lines.get(0).contains(" " + asked.name + "("), asked.name + " is not promise " + asked.promise);
        lines.removeIf(line -> !line.startsWith("Throws "));
        List<String> told = new ArrayList<>();
        List<Class<?>> exceptions = new ArrayList<>();
        for (Refusal refusal : asked.refusals) {
            told.add(refusal.line());
            exceptions.add(refusal.exception);
        }
        due("what promise " + asked.promise + " throws", told, lines);
        for (Method method : Harnessboard.class.getMethods()) {
            if (method.getName().equals(asked.name)) {
                due(asked.name + " of the face", Arrays.asList(method.getExceptionTypes()), exceptions);
            }
        }
    }

    private static void checkAllAreTold() {
        Map<Integer, Asked> byPromise = new HashMap<>();
        for (Asked asked : METHODS) {
            byPromise.put(asked.promise, asked);
            checkSentences(asked);
        }
        for (int promise = 1; promise <= 51; promise++) {
            boolean throwsAny = Document.promise(promise).stream().anyMatch(line -> line.startsWith("Throws "));
            due("promise " + promise + " throws", byPromise.containsKey(promise), throwsAny);
        }
    }

    /** The sentences that hold, by their numbers, in the order of the document. */
    private static String holding(Asked asked, Case one) {
        StringBuilder held = new StringBuilder();
        for (int i = 0; i < asked.refusals.size(); i++) {
            if (asked.refusals.get(i).holds.test(one)) {
                held.append(i);
            }
        }
        return held.toString();
    }

    /** Makes all calls of a method; returns those that are refused by what holds of them. */
    private static Map<String, List<Call>> checkCalls(Asked asked, Base base) {
        Map<String, List<Call>> refused = new TreeMap<>();
        PlainVehicle plain = base.plain();
        Harnessboard made = base.made();
        int calls = base.told.size();
        for (Call call : allCalls(asked, base)) {
            String held = holding(asked, new Case(base, plain, call));
            boolean isRefused = !held.isEmpty();
            String want = isRefused
                    ? "throws " + asked.refusals.get(held.charAt(0) - '0').exception.getSimpleName() : call.on(plain);
            due(base.name + ": " + call, call.on(made), want);
            calls++;
            if (isRefused) {
                refused.computeIfAbsent(held, any -> new ArrayList<>()).add(call);
            } else {
                plain = base.plain();
            }
            if (!isRefused || calls >= CALLS_OF_VEHICLE) {
                made = base.made();
                calls = base.told.size();
            }
        }
        return refused;
    }

    /** Some of the calls, from the first one to the last one. */
    private static List<Call> someOf(List<Call> calls) {
        Set<Call> some = new LinkedHashSet<>();
        for (int i = 0; i < TWINS_OF_A_KIND; i++) {
            some.add(calls.get((int) ((calls.size() - 1L) * i / (TWINS_OF_A_KIND - 1))));
        }
        return new ArrayList<>(some);
    }

    private static void checkTwins(Base base, Map<String, List<Call>> refused, List<List<Call>> rows,
            List<List<String>> answers) {
        for (List<Call> calls : refused.values()) {
            for (Call call : someOf(calls)) {
                for (int row = 0; row < rows.size(); row++) {
                    List<String> later = Later.answers(base, List.of(call), rows.get(row));
                    if (!later.equals(answers.get(row))) {
                        fail(base.name + ": after " + call + ", which is refused, "
                                + firstChange(rows.get(row), answers.get(row), later));
                    }
                }
            }
        }
    }

    private static String firstChange(List<Call> row, List<String> before, List<String> after) {
        for (int i = 0; i < row.size(); i++) {
            if (!before.get(i).equals(after.get(i))) {
                return row.get(i) + " answers " + after.get(i) + ", without it " + before.get(i);
            }
        }
        return "nothing is another one";
    }

    /** Each sentence must have held alone, and each two of a method together, if they can. */
    private static void checkVariety(Asked asked, Set<String> held) {
        for (int i = 0; i < asked.refusals.size(); i++) {
            boolean isAlone = held.contains(String.valueOf(i));
            due(asked.name + " " + i + " alone", isAlone, !NEVER_ALONE.contains(asked.name + " " + i));
            for (int j = i + 1; j < asked.refusals.size(); j++) {
                String one = String.valueOf(i);
                String other = String.valueOf(j);
                boolean areBoth = held.stream().anyMatch(some -> some.contains(one) && some.contains(other));
                due(asked.name + " " + i + j + " both", areBoth, !NEVER_BOTH.contains(asked.name + " " + i + j));
            }
        }
    }

    public static void main(String[] args) {
        addOptionsAndNet();
        addCircuits();
        addConnectorsAndProofs();
        addMachineAndBoard();
        addFaultsAndChanges();
        checkAllAreTold();
        Map<Asked, Set<String>> held = new HashMap<>();
        for (Base base : Base.all()) {
            List<List<Call>> rows = Later.rows(base);
            List<List<String>> answers = new ArrayList<>();
            for (List<Call> row : rows) {
                answers.add(Later.answers(base, List.of(), row));
            }
            for (Asked asked : METHODS) {
                Map<String, List<Call>> refused = checkCalls(asked, base);
                held.computeIfAbsent(asked, any -> new TreeSet<>()).addAll(refused.keySet());
                checkTwins(base, refused, rows, answers);
            }
        }
        for (Asked asked : METHODS) {
            checkVariety(asked, held.get(asked));
        }
        end();
    }
}
