import java.util.List;

/** A vehicle by the calls that tell it, each of which is taken; and how many there are of each part. */
final class Base {
    final String name;
    final List<Call> told;

    Base(String name, List<Call> told) {
        this.name = name;
        this.told = told;
        PlainVehicle plain = new PlainVehicle();
        for (Call call : told) {
            String answer = call.on(plain);
            if (answer.startsWith("throws ")) {
                throw new IllegalStateException(name + ": " + call + " " + answer);
            }
        }
    }

    static List<Base> all() {
        return List.of(new Base("nothing told", List.of()), new Base("something told", Vehicles.some()),
                new Base("everything told", Vehicles.full()));
    }

    Harnessboard made() {
        return (Harnessboard) Vehicles.told(new Harnessboard(), told);
    }

    PlainVehicle plain() {
        return (PlainVehicle) Vehicles.told(new PlainVehicle(), told);
    }

    /** How often a call was made, which is how many there are of what it adds. */
    int count(String call) {
        int count = 0;
        for (Call one : told) {
            count += one.name().equals(call) ? 1 : 0;
        }
        return count;
    }

    int faults() {
        return count("open") + count("shorted");
    }

    boolean has(String call, int number) {
        return 0 <= number && number < count(call);
    }

    /** Whether a set has only what there is, looked at bit by bit. */
    boolean hasAll(String call, int set) {
        for (int i = 0; i < 32; i++) {
            if ((set >>> i & 1) == 1 && !has(call, i)) {
                return false;
            }
        }
        return true;
    }
}
