import java.util.ArrayList;
import java.util.List;

/**
 * What can be called on a vehicle later: rows of calls, each for a vehicle of its own, as one is
 * used for at most 512 calls. Two vehicles that give the same answers to all of them are the same.
 */
final class Later {
    private static final int CALLS_OF_ROW = 380;
    private static final boolean[] BOTH = {false, true};

    private final Base base;
    private final List<Call> asks = new ArrayList<>();

    private Later(Base base) {
        this.base = base;
    }

    /** All that can be asked, each number also one beyond what there is; and all that can be told. */
    static List<List<Call>> rows(Base base) {
        Later later = new Later(base);
        later.askOfNet();
        later.askOfCircuits();
        int all = (1 << base.count("option")) - 1;
        for (int choice : new int[] {0, 1, 2, 5, all, all + 1}) {
            later.askOfChoice(choice);
        }
        later.askOfAll();
        List<List<Call>> rows = chunks(later.asks);
        rows.add(later.oneMoreOfEach());
        rows.add(later.whatIsTold());
        rows.add(later.faultsAnew());
        return rows;
    }

    static List<List<Call>> chunks(List<Call> calls) {
        List<List<Call>> chunks = new ArrayList<>();
        for (int from = 0; from < calls.size(); from += CALLS_OF_ROW) {
            chunks.add(calls.subList(from, Math.min(calls.size(), from + CALLS_OF_ROW)));
        }
        return chunks;
    }

    /** All that can be asked by a choice. */
    static List<Call> ofChoice(Base base, int choice) {
        Later later = new Later(base);
        later.askOfChoice(choice);
        return later.asks;
    }

    /** All that can be asked of points, branches and circuits. */
    static List<Call> ofParts(Base base) {
        Later later = new Later(base);
        later.askOfNet();
        later.askOfCircuits();
        later.askOfAll();
        return later.asks;
    }

    /** The answers of a vehicle that is told as the base, then called so, to one of the rows. */
    static List<String> answers(Base base, List<Call> calls, List<Call> row) {
        Harnessboard made = base.made();
        Vehicles.told(made, calls);
        List<String> answers = new ArrayList<>();
        for (Call call : row) {
            answers.add(call.on(made));
        }
        return answers;
    }

    private void ask(String name, Object... arguments) {
        asks.add(Call.of(name, arguments));
    }

    private void askOfNet() {
        for (int from = 0; from <= base.count("point"); from++) {
            for (int to = 0; to <= base.count("point"); to++) {
                for (boolean isDry : BOTH) {
                    ask("way", from, to, isDry);
                    ask("wayPoint", from, to, isDry, 1);
                }
            }
        }
    }

    private void askOfCircuits() {
        for (int circuit = 0; circuit <= base.count("circuit"); circuit++) {
            for (String name : new String[] {"canBeLaid", "splice", "wires", "size", "leads"}) {
                ask(name, circuit);
            }
            for (int wire = 0; wire < 3; wire++) {
                ask("wireLength", circuit, wire);
                ask("drop", circuit, wire);
            }
            for (int branch = 0; branch <= base.count("branch"); branch++) {
                ask("goesThrough", circuit, branch);
            }
            for (int other = 0; other <= base.count("circuit"); other++) {
                ask("touch", circuit, other);
            }
        }
    }

    private void askOfChoice(int choice) {
        for (String name : new String[] {"isBuildable", "loose", "proof", "built", "laid", "tests", "cost"}) {
            ask(name, choice);
        }
        for (int circuit = 0; circuit <= base.count("circuit"); circuit++) {
            ask("needs", choice, circuit);
            ask("laidAt", choice, circuit);
        }
        for (int branch = 0; branch <= base.count("branch"); branch++) {
            ask("width", choice, branch);
        }
        for (int connector = 0; connector <= base.count("connector"); connector++) {
            ask("plugs", choice, connector);
            for (int cavity = 0; cavity < 10; cavity++) {
                ask("inCavity", choice, connector, cavity);
            }
        }
        for (int places = 1; places <= 4; places++) {
            ask("lineTime", choice, places);
        }
    }

    private void askOfAll() {
        for (String name : new String[] {"buildable", "unproved", "toCut", "checksum", "provedShare",
                "meanLength", "isSound"}) {
            ask(name);
        }
        for (int option = 0; option <= base.count("option"); option++) {
            ask("costOf", option);
        }
        int[][] kinds = {{1, 3}, {2, 7}, {5, 5}, {7, 50}, {9, 999}, {9, 3}, {1, 999}, {1, 50}};
        for (int[] kind : kinds) {
            ask("inStock", kind[0], kind[1]);
        }
    }

    /** Each part is added until there is no room for one more. */
    private List<Call> oneMoreOfEach() {
        List<Call> row = new ArrayList<>();
        Vehicles.addMany(row, 9, Call.of("option"));
        Vehicles.addMany(row, 13, Call.of("rule", 2, 0, 'x'));
        Vehicles.addMany(row, 11, Call.of("point"));
        Vehicles.addMany(row, 17, Call.of("branch", 1, 0, 5, false, 50));
        Vehicles.addMany(row, 13, Call.of("circuit", 0, 1, -1, 2, 3, false));
        Vehicles.addMany(row, 7, Call.of("connector", 0, 9, 9, true));
        Vehicles.addMany(row, 7, Call.of("module", 1));
        Vehicles.addMany(row, 9, Call.of("change", 0, 5, 3));
        Vehicles.addMany(row, 11, Call.of("order", 0));
        Vehicles.addMany(row, 9, Call.of("shorted", 0, 1));
        Later asked = new Later(base);
        asked.askOfAll();
        row.addAll(asked.asks);
        return row;
    }

    /** What was told before comes out: the limit, the chassis, the sets of needs, the orders. */
    private List<Call> whatIsTold() {
        List<Call> row = new ArrayList<>();
        row.add(Call.of("cut"));
        row.add(Call.of("cut"));
        row.add(Call.of("toCut"));
        Vehicles.addMany(row, 11, Call.of("order", 0));
        row.add(Call.of("chassis", 9999));
        row.add(Call.of("toCut"));
        row.add(Call.of("checksum"));
        row.add(Call.of("limit", 0));
        row.add(Call.of("checksum"));
        for (int circuit = 0; circuit <= base.count("circuit"); circuit++) {
            row.add(Call.of("size", circuit));
            row.add(Call.of("need", circuit, 0, 0));
        }
        row.add(Call.of("toCut"));
        row.add(Call.of("checksum"));
        row.add(Call.of("cut"));
        for (int length = 3; length <= 999; length += 47) {
            row.add(Call.of("stock", length % 9 + 1, length, 1));
        }
        row.add(Call.of("isSound"));
        return row;
    }

    private List<Call> faultsAnew() {
        List<Call> row = new ArrayList<>();
        for (int circuit = 0; circuit <= base.count("circuit"); circuit++) {
            row.add(Call.of("open", circuit));
        }
        row.add(Call.of("mend"));
        row.add(Call.of("mend"));
        for (int circuit = 0; circuit <= base.count("circuit"); circuit++) {
            row.add(Call.of("leads", circuit));
            row.add(Call.of("touch", 0, circuit));
            row.add(Call.of("open", circuit));
        }
        return row;
    }
}
