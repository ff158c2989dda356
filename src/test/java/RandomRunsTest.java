import java.util.ArrayList;
import java.util.Arrays;
import java.util.List;
import java.util.Map;
import java.util.TreeMap;

/**
 * Runs of up to 512 calls, drawn from a fixed row of numbers, on the class and on PlainVehicle;
 * each answer must be the same, and the answers must be various enough for that to mean something.
 */
public final class RandomRunsTest extends Answers {
    private static final int RUNS = 200;
    private static final int CALLS = 512;

    /**
     * What each call takes: o option, c set of options, p point, P point or -1, b branch, i circuit,
     * n connector, z boolean, k kind of rule, L length, W width, S size, A amperes, T limit, C
     * cavities, v cavity, m set of circuits, K size and length in stock, M many, Y places, H
     * chassis, w wire, e end, x index on a way, y place on the board.
     */
    private static final String[][] CALLS_AND_KINDS = {
        {"option", ""}, {"rule", "ook"}, {"isBuildable", "c"}, {"buildable", ""}, {"point", ""},
        {"branch", "ppLzW"}, {"way", "ppz"}, {"wayPoint", "ppzx"}, {"circuit", "ppPSAz"},
        {"need", "icc"}, {"needs", "ci"}, {"canBeLaid", "i"}, {"splice", "i"}, {"wires", "i"},
        {"wireLength", "iw"}, {"goesThrough", "ib"}, {"size", "i"}, {"drop", "ie"}, {"limit", "T"},
        {"width", "cb"}, {"connector", "pCSz"}, {"inCavity", "cnv"}, {"plugs", "cn"}, {"loose", "c"},
        {"proof", "c"}, {"unproved", ""}, {"module", "m"}, {"built", "c"}, {"order", "c"},
        {"stock", "KM"}, {"inStock", "K"}, {"toCut", ""}, {"cut", ""}, {"laid", "c"},
        {"laidAt", "cy"}, {"lineTime", "cY"}, {"open", "i"}, {"shorted", "ii"}, {"mend", ""},
        {"leads", "i"}, {"touch", "ii"}, {"tests", "c"}, {"change", "iHS"}, {"chassis", "H"},
        {"cost", "c"}, {"costOf", "o"}, {"checksum", ""}, {"provedShare", ""}, {"meanLength", ""},
        {"isSound", ""}};
    private static final List<String> BUILDING =
            List.of("option", "rule", "point", "branch", "circuit", "need", "connector", "module", "change");

    private static long seed;
    private static Map<String, Integer> counts;
    private static List<int[]> kindsOfWires;
    private static int greatestLength;
    private static int greatestSize;
    private static int badOnesIn;
    private static int greatestChassis;

    private static int below(int bound) {
        seed = seed * 6364136223846793005L + 1442695040888963407L;
        return (int) ((seed >>> 33) % bound);
    }

    private static int number(int least, int greatest) {
        if (below(badOnesIn) == 0) {
            int[] bad = {least - 1, greatest + 1, Integer.MIN_VALUE, Integer.MAX_VALUE, -1, 0};
            return bad[below(bad.length)];
        }
        return least + below(Math.max(1, greatest - least + 1));
    }

    private static int oneOf(String what) {
        return number(0, counts.get(what) - 1);
    }

    private static void addArguments(char kind, List<Object> arguments) {
        switch (kind) {
            case 'o' -> arguments.add(oneOf("options"));
            case 'c' -> arguments.add(setOfOptions());
            case 'p' -> arguments.add(oneOf("points"));
            case 'P' -> arguments.add(below(2) == 0 ? -1 : oneOf("points"));
            case 'b' -> arguments.add(oneOf("branches"));
            case 'i' -> arguments.add(oneOf("circuits"));
            case 'n' -> arguments.add(oneOf("connectors"));
            case 'z' -> arguments.add(below(3) == 0);
            case 'k' -> arguments.add("xfxfxfxfb".charAt(below(9)));
            case 'L' -> arguments.add(number(1, greatestLength));
            case 'W' -> arguments.add(below(3) == 0 ? number(1, 99) : number(1, 25));
            case 'S' -> arguments.add(number(1, greatestSize));
            case 'A' -> arguments.add(number(0, 99));
            case 'T' -> arguments.add(below(3) == 0 ? number(0, 9999) : number(0, 60));
            case 'C' -> arguments.add(number(1, 9));
            case 'v' -> arguments.add(number(0, 3));
            case 'm' -> arguments.add(setOfCircuits());
            case 'K' -> addKind(arguments);
            case 'M' -> arguments.add(below(2) == 0 ? number(1, 2) : number(1, 20));
            case 'Y' -> arguments.add(number(1, 4));
            case 'H' -> arguments.add(number(0, greatestChassis));
            case 'w', 'e' -> arguments.add(number(0, 2));
            case 'x' -> arguments.add(number(0, 3));
            case 'y' -> arguments.add(number(0, counts.get("circuits") - 1));
            default -> throw new IllegalStateException("no kind " + kind);
        }
    }

    private static int setOfOptions() {
        int all = (1 << counts.get("options")) - 1;
        int set = below(2) == 0 ? below(256) & all : below(256) & below(256) & below(256) & all;
        return below(badOnesIn) == 0 ? number(0, all) : set;
    }

    /** Mostly small ones, so that modules make up what is needed. */
    private static int setOfCircuits() {
        int all = (1 << counts.get("circuits")) - 1;
        int set = below(4) == 0 ? all : below(4096) & below(4096) & all;
        return below(badOnesIn) == 0 ? number(1, all) : set;
    }

    private static void addKind(List<Object> arguments) {
        if (!kindsOfWires.isEmpty() && below(5) != 0) {
            int[] kind = kindsOfWires.get(below(kindsOfWires.size()));
            arguments.add(kind[0]);
            arguments.add(kind[1]);
        } else {
            arguments.add(number(1, 9));
            arguments.add(number(3, 999));
        }
    }

    /** A vehicle with a net that hangs together, so that much of what follows can be laid. */
    private static List<Call> plan() {
        List<Call> plan = new ArrayList<>();
        int options = below(7);
        int points = 2 + below(9);
        for (int i = 0; i < options; i++) {
            plan.add(Call.of("option"));
        }
        for (int i = 0; i < points; i++) {
            plan.add(Call.of("point"));
        }
        int branches = below(18 - points);
        for (int i = 1; i < points + branches; i++) {
            int one = i < points ? i : below(points);
            int other = i < points ? below(i) : (one + 1 + below(points - 1)) % points;
            plan.add(Call.of("branch", one, other, 1 + below(greatestLength), below(5) == 0, 5 + below(90)));
        }
        int circuits = 1 + below(12);
        int all = (1 << options) - 1;
        for (int i = 0; i < circuits; i++) {
            int first = below(points);
            int second = (first + 1 + below(points - 1)) % points;
            int third = points < 3 || below(3) == 0 ? -1 : 3 * points - first - second;
            third = third == -1 || third % points == first || third % points == second ? -1 : third % points;
            plan.add(Call.of("circuit", first, second, third, 1 + below(greatestSize), below(40), below(4) == 0));
            if (below(3) != 0) {
                plan.add(Call.of("need", i, below(256) & below(256) & all, below(256) & below(256) & all));
            }
        }
        int connectors = below(5);
        for (int i = 0; i < connectors; i++) {
            plan.add(Call.of("connector", below(points), 4 + below(6), 3 + below(7), below(4) != 0));
        }
        return plan;
    }

    /** Late calls seldom build, so that what is built is asked for long. */
    private static Call drawCall(int call) {
        while (true) {
            String[] drawn = CALLS_AND_KINDS[below(CALLS_AND_KINDS.length)];
            if (!BUILDING.contains(drawn[0]) || below(CALLS) > call) {
                List<Object> arguments = new ArrayList<>();
                for (char kind : drawn[1].toCharArray()) {
                    addArguments(kind, arguments);
                }
                return new Call(drawn[0], arguments);
            }
        }
    }

    public static void main(String[] args) {
        Map<String, Map<String, Integer>> seen = new TreeMap<>();
        for (int run = 0; run < RUNS; run++) {
            seed = 77_000_000L + run;
            greatestLength = below(3) == 0 ? 99 : 1 + below(4);
            greatestSize = below(3) == 0 ? 2 : 9;
            badOnesIn = 12 + below(60);
            greatestChassis = below(2) == 0 ? 5 : 9999;
            List<Call> plan = below(5) == 0 ? List.of() : plan();
            runOnce(run, plan, seen);
        }
        checkVariety(seen);
        end();
    }

    /** Up to the first answer that is not as due, as what follows it says nothing. */
    private static void runOnce(int run, List<Call> plan, Map<String, Map<String, Integer>> seen) {
        Harnessboard board = new Harnessboard();
        PlainVehicle vehicle = new PlainVehicle();
        StringBuilder said = new StringBuilder();
        for (int call = 0; call < CALLS; call++) {
            counts = vehicle.counts();
            kindsOfWires = vehicle.kindsOfWires();
            Call drawn = call < plan.size() ? plan.get(call) : drawCall(call);
            String got = drawn.on(board);
            String want = drawn.on(vehicle);
            said.append(drawn).append(" = ").append(want).append('\n');
            seen.computeIfAbsent(drawn.name(), any -> new TreeMap<>()).merge(want, 1, Integer::sum);
            if (!got.equals(want)) {
                fail("run " + run + "\n" + said + "but the answer was " + got);
                return;
            }
        }
    }

    private static void checkVariety(Map<String, Map<String, Integer>> seen) {
        if (Boolean.getBoolean("tell")) {
            seen.forEach((name, answers) -> System.out.println(name + " " + top(answers)));
        }
        for (String letter : new String[] {"b", "n", "w", "l", "d", "p"}) {
            require(seen.get("proof").getOrDefault(letter, 0) > 20, "too little is tried of proof " + letter);
        }
        for (String[] call : CALLS_AND_KINDS) {
            Map<String, Integer> answers = seen.getOrDefault(call[0], Map.of());
            boolean isVarious = answers.size() >= 2 || call[0].equals("isSound");
            require(isVarious, "too little is tried of " + call[0] + " " + answers);
        }
    }

    private static String top(Map<String, Integer> answers) {
        return Arrays.toString(answers.entrySet().stream()
                .sorted((a, b) -> b.getValue() - a.getValue()).limit(12).toArray());
    }
}
