import java.util.ArrayList;
import java.util.List;
import java.util.TreeSet;

/**
 * Of a vehicle of which nothing is told, one of something, and one of everything that the bounds
 * allow, all is asked by choices from the first to one beyond the last; each answer must be that of
 * PlainVehicle, also after more is told, as often as an object may be called.
 */
public final class FullVehicleTest extends Answers {
    /** So that all options come and go. */
    private static final int STEP_OF_CHOICES = 3;

    private static void dueAll(Base base) {
        List<Call> asks = new ArrayList<>(Later.ofParts(base));
        int choices = 1 << base.count("option");
        for (int choice = 0; choice < choices; choice += STEP_OF_CHOICES) {
            asks.addAll(Later.ofChoice(base, choice));
        }
        asks.addAll(Later.ofChoice(base, choices - 1));
        asks.addAll(Later.ofChoice(base, choices));
        PlainVehicle plain = base.plain();
        for (List<Call> row : Later.chunks(asks)) {
            List<String> answers = Later.answers(base, List.of(), row);
            for (int i = 0; i < row.size(); i++) {
                due(base.name + ": " + row.get(i), answers.get(i), row.get(i).on(plain));
            }
        }
    }

    /** As many calls as one object may have, of which each that can be told is told to the last. */
    private static void dueToTheEnd(Base base) {
        for (List<Call> row : Later.rows(base)) {
            PlainVehicle plain = base.plain();
            List<String> answers = Later.answers(base, List.of(), row);
            for (int i = 0; i < row.size(); i++) {
                due(base.name + ", later: " + row.get(i), answers.get(i), row.get(i).on(plain));
            }
        }
    }

    /** The full vehicle is worth asking: each letter is there, and choices are built of modules or not. */
    private static void checkVariety(Harnessboard full) {
        TreeSet<Character> letters = new TreeSet<>();
        for (int choice = 0; choice < 256; choice += STEP_OF_CHOICES) {
            letters.add(full.proof(choice));
        }
        due("letters", letters.toString(), "[b, d, l, n, p, w]");
        due("two modules, of like ones the lower", full.built(0), 0b000011);
        due("three modules", full.built(6), 0b001011);
        thrown("half of one", ELEMENT, () -> full.built(2));
    }

    private static void dueBounds(Base full) {
        due("options", full.count("option"), 8);
        due("rules", full.count("rule"), 12);
        due("points", full.count("point"), 10);
        due("branches", full.count("branch"), 16);
        due("circuits", full.count("circuit"), 12);
        due("connectors", full.count("connector"), 6);
        due("modules", full.count("module"), 6);
        due("orders", full.count("order"), 10);
        due("faults", full.faults(), 8);
        due("changes", full.count("change"), 8);
    }

    /** What is told first is needed by what is told later; all else may be told in any order. */
    private static List<Call> inAnotherOrder(List<Call> told) {
        List<Call> parts = new ArrayList<>();
        List<Call> circuits = new ArrayList<>();
        List<Call> others = new ArrayList<>();
        for (Call call : told) {
            switch (call.name()) {
                case "option", "point" -> parts.add(call);
                case "circuit", "need" -> circuits.add(call);
                default -> others.add(call);
            }
        }
        parts.addAll(circuits);
        parts.addAll(others);
        return parts;
    }

    public static void main(String[] args) {
        List<Base> bases = Base.all();
        dueBounds(bases.get(2));
        checkVariety(bases.get(2).made());
        for (Base base : bases) {
            dueAll(base);
            dueToTheEnd(base);
        }
        Base late = new Base("the net told last", inAnotherOrder(Vehicles.full()));
        dueBounds(late);
        dueAll(late);
        end();
    }
}
