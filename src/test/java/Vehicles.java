import java.util.ArrayList;
import java.util.List;

/** Vehicles that several tests begin with. */
final class Vehicles {
    private Vehicles() {
    }

    static Harnessboard withOptions(int many) {
        Harnessboard x = new Harnessboard();
        for (int i = 0; i < many; i++) {
            x.option();
        }
        return x;
    }

    static Harnessboard withPoints(int many) {
        Harnessboard x = new Harnessboard();
        for (int i = 0; i < many; i++) {
            x.point();
        }
        return x;
    }

    /** Points 0 to many - 1 in a row, with dry branches of a length that bear 99. */
    static Harnessboard row(int many, int length) {
        Harnessboard x = withPoints(many);
        for (int i = 1; i < many; i++) {
            x.branch(i - 1, i, length, false, 99);
        }
        return x;
    }

    /** Circuits of size 1 between points 0 and 1, which cannot be laid. */
    static Harnessboard withCircuits(int many) {
        Harnessboard x = withPoints(2);
        for (int i = 0; i < many; i++) {
            x.circuit(0, 1, -1, 1, 1, false);
        }
        return x;
    }

    static Object told(Object vehicle, List<Call> calls) {
        for (Call call : calls) {
            call.on(vehicle);
        }
        return vehicle;
    }

    /** Something of everything, well inside all bounds. */
    static List<Call> some() {
        List<Call> told = new ArrayList<>();
        addMany(told, 3, Call.of("option"));
        told.add(Call.of("rule", 0, 1, 'x'));
        told.add(Call.of("rule", 2, 1, 'f'));
        addMany(told, 5, Call.of("point"));
        told.add(Call.of("branch", 0, 1, 3, false, 9));
        told.add(Call.of("branch", 1, 2, 4, true, 9));
        told.add(Call.of("branch", 2, 3, 5, false, 12));
        told.add(Call.of("branch", 0, 3, 20, false, 30));
        told.add(Call.of("circuit", 0, 1, -1, 2, 10, false));
        told.add(Call.of("circuit", 0, 2, 3, 3, 20, false));
        told.add(Call.of("circuit", 1, 2, -1, 2, 5, true));
        told.add(Call.of("circuit", 0, 4, -1, 1, 1, false));
        told.add(Call.of("need", 2, 1, 2));
        told.add(Call.of("need", 3, 2, 4));
        told.add(Call.of("connector", 0, 2, 3, true));
        told.add(Call.of("connector", 2, 1, 9, false));
        told.add(Call.of("module", 0b0011));
        told.add(Call.of("module", 0b0100));
        told.add(Call.of("module", 0b0111));
        told.add(Call.of("change", 0, 40, 5));
        told.add(Call.of("change", 2, 60, 4));
        told.add(Call.of("chassis", 50));
        told.add(Call.of("limit", 90));
        told.add(Call.of("order", 0));
        told.add(Call.of("order", 1));
        told.add(Call.of("stock", 5, 5, 3));
        told.add(Call.of("stock", 2, 7, 2));
        told.add(Call.of("open", 1));
        told.add(Call.of("shorted", 0, 2));
        return told;
    }

    /**
     * Everything told that the bounds allow. Of the choices some are proved; option 0 brings too much
     * drop, 1 too much width, 2 a circuit that is loose, 7 one that cannot be laid.
     */
    static List<Call> full() {
        List<Call> told = new ArrayList<>();
        addMany(told, 8, Call.of("option"));
        int[][] rules = {{4, 5}, {6, 5}, {6, 4}, {3, 7}, {5, 4}, {6, 5}, {4, 6}, {7, 3}, {4, 5}, {6, 5}, {6, 4},
            {3, 7}};
        for (int i = 0; i < 12; i++) {
            told.add(Call.of("rule", rules[i][0], rules[i][1], i % 4 == 1 ? 'f' : 'x'));
        }
        addNet(told);
        addCircuits(told);
        int[] modules = {0x003, 0x0a8, 0x100, 0x600, 0x00b, 0x0a0};
        for (int i = 0; i < 6; i++) {
            told.add(Call.of("connector", i / 2 * 3, 9, i < 4 ? 9 - i % 2 : 4 - i % 2, i != 1));
            told.add(Call.of("module", modules[i]));
        }
        for (int i = 0; i < 8; i++) {
            told.add(Call.of("change", i / 2 * 2, 1250 * i, 3 - i % 3));
        }
        for (int i = 0; i < 10; i++) {
            told.add(Call.of("chassis", 1111 * i));
            told.add(Call.of("order", 7 * i % 16));
        }
        told.add(Call.of("limit", 900));
        told.add(Call.of("stock", 2, 40, 20));
        told.add(Call.of("stock", 9, 999, 20));
        told.add(Call.of("stock", 1, 3, 1));
        for (int i = 0; i < 4; i++) {
            told.add(Call.of("open", 3 * i));
            told.add(Call.of("shorted", i, i + 4));
        }
        return told;
    }

    /** Points 0 to 8 in a row, each with another branch to one further on; point 9 has no branch. */
    private static void addNet(List<Call> told) {
        addMany(told, 10, Call.of("point"));
        for (int i = 0; i < 16; i++) {
            int one = i % 8;
            int other = i < 8 ? one + 1 : (one + 3 + i % 2) % 9;
            int length = i == 15 ? 99 : 11 + 7 * i % 19;
            told.add(Call.of("branch", one, other, length, i % 6 == 5, i == 9 ? 8 : 99 - i));
        }
    }

    private static void addCircuits(List<Call> told) {
        int[][] ends = {{0, 8, -1}, {1, 4, 8}, {2, 7, 5}, {3, 0, -1}, {4, 3, 0}, {5, 2, 8}, {6, 1, -1}, {7, 0, 3},
            {8, 0, -1}, {1, 5, -1}, {6, 7, -1}, {9, 0, 1}};
        int[][] options = {{0, 0}, {0, 8}, {8, 0}, {0, 0}, {16, 0}, {0, 48}, {32, 16}, {0, 0}, {1, 0}, {2, 0}, {4, 0},
            {128, 0}};
        for (int i = 0; i < 12; i++) {
            int size = i < 8 ? 1 + i % 3 : i == 8 ? 1 : 9;
            told.add(Call.of("circuit", ends[i][0], ends[i][1], ends[i][2], size, i == 8 ? 99 : 3 * i, i % 4 == 2));
            told.add(Call.of("need", i, options[i][0], options[i][1]));
        }
    }

    static void addMany(List<Call> calls, int many, Call call) {
        for (int i = 0; i < many; i++) {
            calls.add(call);
        }
    }
}
