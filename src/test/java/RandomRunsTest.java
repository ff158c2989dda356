import java.util.ArrayList;
import java.util.Arrays;
import java.util.List;
import java.util.Map;
import java.util.TreeMap;

/**
 * Runs of 512 calls, drawn from a fixed row of numbers, on the class and on PlainVehicle; each
 * answer must be the same. In all runs told, refused and asking calls of all methods are mixed to
 * the end, and the last calls are of each method in turn; that the answers are various enough for
 * that to mean something is held against the document, too.
 */
public final class RandomRunsTest extends Answers {
    private static final int RUNS = 250;
    private static final int CALLS = 512;
    /** From this call on a run nears its end. */
    private static final int LATE = 384;
    /** The choice without options keeps all rules, so that always one is buildable. */
    private static final String NEVER = "provedShare throws ArithmeticException";

    /**
     * All methods by their promises, from 2 on, and what each takes: o option, c set of options, p point, P point or -1, b branch, i circuit,
     * n connector, z boolean, k kind of rule, L length, W width, S size, A amperes, T limit, C
     * cavities, v cavity, m set of circuits, K size and length in stock, M many, Y places, H
     * chassis, w wire, e end, x index on a way, y place on the board.
     */
    private static final String[][] CALLS_AND_KINDS = {
        {"option", ""}, {"rule", "ook"}, {"isBuildable", "c"}, {"buildable", ""}, {"point", ""},
        {"branch", "ppLzW"}, {"way", "ppz"}, {"wayPoint", "ppzx"}, {"circuit", "ppPSAz"},
        {"need", "icc"}, {"needs", "ci"}, {"canBeLaid", "i"}, {"splice", "i"}, {"wires", "i"},
        {"wireLength", "iw"}, {"goesThrough", "ib"}, {"size", "i"}, {"drop", "ie"}, {"limit", "T"},
        {"width", "cb"}, {"connector", "pCSz"}, {"inCavity", "cnv"}, {"plugs", "cn"}, {"loose", "c"},
        {"proof", "c"}, {"unproved", ""}, {"module", "m"}, {"built", "c"}, {"order", "c"},
        {"stock", "KM"}, {"inStock", "K"}, {"toCut", ""}, {"cut", ""}, {"laid", "c"},
        {"laidAt", "cy"}, {"lineTime", "cY"}, {"open", "i"}, {"shorted", "ii"}, {"mend", ""},
        {"leads", "i"}, {"touch", "ii"}, {"tests", "c"}, {"change", "iHS"}, {"chassis", "H"},
        {"cost", "c"}, {"costOf", "o"}, {"checksum", ""}, {"provedShare", ""}, {"meanLength", ""},
        {"isSound", ""}};
    private static final List<String> BUILDING =
            List.of("option", "rule", "point", "branch", "circuit", "need", "connector", "module", "change");

    private static long seed;
    private static Map<String, Integer> counts;
    private static List<int[]> kindsOfWires;
    private static int greatestLength;
    private static int greatestSize;
    private static int badOnesIn;
    private static int greatestChassis;
    private static boolean isEven;
    private static final int[] WEIGHTS = new int[CALLS_AND_KINDS.length];

    private static int below(int bound) {
        seed = seed * 6364136223846793005L + 1442695040888963407L;
        return (int) ((seed >>> 33) % bound);
    }

    private static int number(int least, int greatest) {
        if (below(badOnesIn) == 0) {
            int[] bad = {least - 1, greatest + 1, Integer.MIN_VALUE, Integer.MAX_VALUE, -1, 0};
            return bad[below(bad.length)];
        }
        return least + below(Math.max(1, greatest - least + 1));
    }

    private static int oneOf(String what) {
        return number(0, counts.get(what) - 1);
    }

    private static void addArguments(char kind, List<Object> arguments) {
        switch (kind) {
            case 'o' -> arguments.add(oneOf("options"));
            case 'c' -> arguments.add(setOfOptions());
            case 'p' -> arguments.add(oneOf("points"));
            case 'P' -> arguments.add(below(2) == 0 ? -1 : oneOf("points"));
            case 'b' -> arguments.add(oneOf("branches"));
            case 'i' -> arguments.add(oneOf("circuits"));
            case 'n' -> arguments.add(oneOf("connectors"));
            case 'z' -> arguments.add(below(3) == 0);
            case 'k' -> arguments.add("xfxfxfxfb".charAt(below(9)));
            case 'L' -> arguments.add(number(1, greatestLength));
            case 'W' -> arguments.add(below(3) == 0 ? number(1, 99) : number(1, 25));
            case 'S' -> arguments.add(number(1, greatestSize));
            case 'A' -> arguments.add(number(0, 99));
            case 'T' -> arguments.add(below(3) == 0 ? number(0, 9999) : number(0, 60));
            case 'C' -> arguments.add(number(1, 9));
            case 'v' -> arguments.add(number(0, 3));
            case 'm' -> arguments.add(setOfCircuits());
            case 'K' -> addKind(arguments);
            case 'M' -> arguments.add(below(2) == 0 ? number(1, 2) : number(1, 20));
            case 'Y' -> arguments.add(number(1, 4));
            case 'H' -> arguments.add(number(0, greatestChassis));
            case 'w', 'e' -> arguments.add(number(0, 2));
            case 'x' -> arguments.add(number(0, 3));
            case 'y' -> arguments.add(number(0, counts.get("circuits") - 1));
            default -> throw new IllegalStateException("no kind " + kind);
        }
    }

    private static int setOfOptions() {
        int all = (1 << counts.get("options")) - 1;
        int set = below(2) == 0 ? below(256) & all : below(256) & below(256) & below(256) & all;
        int[] wrong = {all + 1, all + 1 | set, ~set, -1, Integer.MIN_VALUE | set, Integer.MAX_VALUE};
        return below(badOnesIn) == 0 ? wrong[below(wrong.length)] : set;
    }

    /** Mostly small ones, so that modules make up what is needed. */
    private static int setOfCircuits() {
        int all = (1 << counts.get("circuits")) - 1;
        int set = below(4) == 0 ? all : below(4096) & below(4096) & all;
        return below(badOnesIn) == 0 ? number(1, all) : set;
    }

    private static void addKind(List<Object> arguments) {
        if (!kindsOfWires.isEmpty() && below(5) != 0) {
            int[] kind = kindsOfWires.get(below(kindsOfWires.size()));
            arguments.add(kind[0]);
            arguments.add(kind[1]);
        } else {
            arguments.add(number(1, 9));
            arguments.add(number(3, 999));
        }
    }

    /** A vehicle with a net that hangs together, so that much of what follows can be laid. */
    private static List<Call> plan() {
        List<Call> plan = new ArrayList<>();
        int options = below(7);
        int points = 2 + below(9);
        for (int i = 0; i < options; i++) {
            plan.add(Call.of("option"));
        }
        for (int i = 0; i < points; i++) {
            plan.add(Call.of("point"));
        }
        int branches = below(18 - points);
        for (int i = 1; i < points + branches; i++) {
            int one = i < points ? i : below(points);
            int other = i < points ? below(i) : (one + 1 + below(points - 1)) % points;
            plan.add(Call.of("branch", one, other, 1 + below(greatestLength), below(5) == 0, 5 + below(90)));
        }
        int circuits = 1 + below(12);
        int all = (1 << options) - 1;
        for (int i = 0; i < circuits; i++) {
            int first = below(points);
            int second = (first + 1 + below(points - 1)) % points;
            int third = points < 3 || below(3) == 0 ? -1 : 3 * points - first - second;
            third = third == -1 || third % points == first || third % points == second ? -1 : third % points;
            plan.add(Call.of("circuit", first, second, third, 1 + below(greatestSize), below(40), below(4) == 0));
            if (below(3) != 0) {
                plan.add(Call.of("need", i, below(256) & below(256) & all, below(256) & below(256) & all));
            }
        }
        int connectors = below(5);
        for (int i = 0; i < connectors; i++) {
            plan.add(Call.of("connector", below(points), 4 + below(6), 3 + below(7), below(4) != 0));
        }
        return plan;
    }

    /** A run favours some methods and shuns others, so that also what seldom comes together does. */
    private static void drawWeights() {
        Arrays.fill(WEIGHTS, 5);
        for (int i = 0; i < 4; i++) {
            WEIGHTS[below(WEIGHTS.length)] = 1;
            WEIGHTS[below(WEIGHTS.length)] = 50;
        }
    }

    private static String[] drawMethod() {
        int left = below(Arrays.stream(WEIGHTS).sum());
        int method = 0;
        while (left >= WEIGHTS[method]) {
            left -= WEIGHTS[method];
            method++;
        }
        return CALLS_AND_KINDS[method];
    }

    private static Call callOf(String[] method) {
        List<Object> arguments = new ArrayList<>();
        for (char kind : method[1].toCharArray()) {
            addArguments(kind, arguments);
        }
        return new Call(method[0], arguments);
    }

    /** But in even runs late calls seldom build, so that what is built is asked for long. */
    private static Call drawCall(int call) {
        while (true) {
            String[] drawn = drawMethod();
            if (isEven || !BUILDING.contains(drawn[0]) || below(CALLS) > call) {
                return callOf(drawn);
            }
        }
    }

    public static void main(String[] args) {
        Variety variety = new Variety();
        for (int run = 0; run < RUNS; run++) {
            seed = 77_000_000L + run;
            greatestLength = below(3) == 0 ? 99 : 1 + below(4);
            greatestSize = below(3) == 0 ? 2 : 9;
            badOnesIn = 6 + below(60);
            greatestChassis = below(2) == 0 ? 5 : 9999;
            isEven = below(3) == 0;
            drawWeights();
            List<Call> plan = below(4) == 0 ? List.of() : plan();
            runOnce(run, plan, variety);
        }
        variety.check();
        end();
    }

    /** Up to the first answer that is not as due, as what follows it says nothing. */
    private static void runOnce(int run, List<Call> plan, Variety variety) {
        Harnessboard board = new Harnessboard();
        PlainVehicle vehicle = new PlainVehicle();
        StringBuilder said = new StringBuilder();
        for (int call = 1; call <= CALLS; call++) {
            counts = vehicle.counts();
            kindsOfWires = vehicle.kindsOfWires();
            Call drawn = call <= plan.size() ? plan.get(call - 1) : drawCall(call);
            if (call == CALLS) {
                drawn = callOf(CALLS_AND_KINDS[run % CALLS_AND_KINDS.length]);
            }
            String got = drawn.on(board);
            String want = drawn.on(vehicle);
            said.append(drawn).append(" = ").append(want).append('\n');
            variety.add(drawn.name(), want, call);
            if (!got.equals(want)) {
                fail("run " + run + "\n" + said + "but the answer was " + got);
                return;
            }
        }
    }

    /** How often which answers came, in all and late in a run; all exceptions of a kind are one answer. */
    private static final class Variety {
        private final Map<String, Map<String, Integer>> all = new TreeMap<>();
        private final Map<String, Map<String, Integer>> late = new TreeMap<>();

        void add(String method, String answer, int call) {
            all.computeIfAbsent(method, any -> new TreeMap<>()).merge(answer, 1, Integer::sum);
            if (call >= LATE) {
                late.computeIfAbsent(method, any -> new TreeMap<>()).merge(answer, 1, Integer::sum);
            }
        }

        void check() {
            if (Boolean.getBoolean("tell")) {
                all.forEach((method, answers) -> System.out.println(method + " " + top(answers)));
            }
            for (String letter : new String[] {"b", "n", "w", "l", "d", "p"}) {
                needs("proof", letter, 100, 30);
            }
            for (int i = 0; i < CALLS_AND_KINDS.length; i++) {
                String method = CALLS_AND_KINDS[i][0];
                requireAnswers(method);
                for (String line : Document.promise(i + 2)) {
                    if (line.startsWith("Throws `")) {
                        needs(method, "throws " + line.split("`")[1], 10, 5);
                    }
                }
            }
        }

        /** Answers that are no exceptions, and not always the same one. */
        private void requireAnswers(String method) {
            Map<String, Integer> answers = new TreeMap<>(late.getOrDefault(method, Map.of()));
            answers.keySet().removeIf(answer -> answer.startsWith("throws "));
            int many = answers.values().stream().mapToInt(Integer::intValue).sum();
            require(many >= 30 && (answers.size() >= 2 || method.equals("isSound")),
                    "too little is answered late by " + method + ": " + answers);
        }

        private void needs(String method, String answer, int many, int manyLate) {
            int seen = all.getOrDefault(method, Map.of()).getOrDefault(answer, 0);
            int seenLate = late.getOrDefault(method, Map.of()).getOrDefault(answer, 0);
            boolean isNever = NEVER.equals(method + " " + answer);
            require(isNever ? seen == 0 : seen >= many && seenLate >= manyLate,
                    method + " " + answer + " came " + seen + " times, late " + seenLate + " times");
        }

        private static String top(Map<String, Integer> answers) {
            return Arrays.toString(answers.entrySet().stream()
                    .sorted((a, b) -> b.getValue() - a.getValue()).limit(12).toArray());
        }
    }
}
