import java.lang.reflect.Array;
import java.lang.reflect.Field;
import java.lang.reflect.Method;

/**
 * No run of calls makes isSound answer false, so its checks are tried on vehicles whose inside is
 * spoilt by hand.
 */
public final class SoundnessTest extends Answers {
    private static Object inside(Object owner, String name) throws ReflectiveOperationException {
        Field field = owner.getClass().getDeclaredField(name);
        field.setAccessible(true);
        return field.get(owner);
    }

    private static void spoil(Object owner, String name, int value) throws ReflectiveOperationException {
        Field field = owner.getClass().getDeclaredField(name);
        field.setAccessible(true);
        field.setInt(owner, value);
    }

    /** Three points in a ring, a dry branch each, and two circuits that share one of them. */
    private static Harnessboard ring() {
        Harnessboard board = new Harnessboard();
        for (int i = 0; i < 4; i++) {
            board.point();
        }
        board.branch(0, 1, 3, false, 20);
        board.branch(1, 2, 4, false, 20);
        board.branch(2, 0, 9, true, 20);
        board.circuit(0, 1, 2, 2, 1, false);
        board.circuit(2, 1, -1, 5, 1, false);
        board.circuit(0, 1, 3, 5, 1, false);
        return board;
    }

    private static int[] far(Harnessboard board, String table) throws ReflectiveOperationException {
        return (int[]) inside(inside(board, "net"), table);
    }

    private static Object circuit(Harnessboard board, int number) throws ReflectiveOperationException {
        return Array.get(inside(inside(board, "circuits"), "list"), number);
    }

    private static void checkWays() throws ReflectiveOperationException {
        Harnessboard longer = ring();
        far(longer, "far")[2] += 16;
        due("a way that is too long", longer.isSound(), false);
        Harnessboard shorter = ring();
        far(shorter, "far")[21] -= 16;
        due("a way that is too short", shorter.isSound(), false);
        Harnessboard more = ring();
        far(more, "far")[1] += 1;
        due("a way of too many branches", more.isSound(), false);
        Harnessboard back = ring();
        far(back, "far")[10] += 16;
        due("a way to the first point that is too long", back.isSound(), false);
        Harnessboard dry = ring();
        far(dry, "dryFar")[2] = 9 * 16 + 1;
        due("a dry way along a wet branch", dry.isSound(), false);
        Harnessboard none = ring();
        far(none, "far")[12] = 1 << 20;
        due("a way that is not found", none.isSound(), false);
        Harnessboard apart = ring();
        for (int i = 0; i < 100; i++) {
            far(apart, "far")[i] = i % 11 == 0 ? 0 : 1 << 20;
        }
        due("no way is found at all", apart.isSound(), false);
        Harnessboard dryApart = ring();
        for (int other : new int[] {0, 2}) {
            far(dryApart, "dryFar")[10 + other] = 1 << 20;
            far(dryApart, "dryFar")[10 * other + 1] = 1 << 20;
        }
        far(dryApart, "dryFar")[2] = 1 << 20;
        far(dryApart, "dryFar")[20] = 1 << 20;
        due("no dry way is found at all", dryApart.isSound(), false);
        Harnessboard any = ring();
        far(any, "far")[3] = 16;
        due("a way that there is not", any.isSound(), false);
    }

    private static void checkSplices() throws ReflectiveOperationException {
        for (int splice = -1; splice < 4; splice++) {
            Harnessboard board = ring();
            spoil(circuit(board, 0), "meeting", splice);
            due("the splice " + splice, board.isSound(), splice == 1);
        }
        Harnessboard star = Vehicles.withPoints(4);
        for (int i = 1; i < 4; i++) {
            star.branch(0, i, 5, false, 20);
        }
        star.circuit(1, 2, 3, 1, 1, false);
        due("the first point is best", star.isSound(), true);
        spoil(circuit(star, 0), "meeting", 1);
        due("a splice that is worse than the first point", star.isSound(), false);
        Harnessboard board = ring();
        spoil(circuit(board, 2), "meeting", 0);
        due("a splice of one that cannot be laid", board.isSound(), false);
    }

    private static void checkBoard() throws ReflectiveOperationException {
        Harnessboard board = ring();
        spoil(circuit(board, 0), "ahead", 0);
        due("an order without what goes ahead", board.isSound(), false);
    }

    private static Object call(Object owner, String name, Object... arguments) throws ReflectiveOperationException {
        for (Method method : owner.getClass().getDeclaredMethods()) {
            if (method.getName().equals(name)) {
                method.setAccessible(true);
                return method.invoke(owner, arguments);
            }
        }
        throw new NoSuchMethodException(name);
    }

    /** A connector at each of the first two points, which all circuits of the ring fill. */
    private static Harnessboard seated() {
        Harnessboard board = ring();
        board.connector(0, 2, 9, true);
        board.connector(1, 3, 9, true);
        return board;
    }

    /** Whether each end is seated, when a cavity of a connector holds another circuit, or fewer are taken. */
    private static boolean holds(int connector, int cavity, int circuit, int taken)
            throws ReflectiveOperationException {
        Harnessboard board = seated();
        Object connectors = inside(board, "connectors");
        Object circuits = inside(board, "circuits");
        due("loose ends", call(connectors, "seatAll", circuits, 7).equals(0), true);
        due("each end is seated", (Boolean) call(connectors, "seatEachEnd", circuits, 7), true);
        Object spoilt = Array.get(inside(connectors, "list"), connector);
        ((int[]) inside(spoilt, "held"))[cavity] = circuit;
        spoil(spoilt, "taken", taken);
        return (Boolean) call(connectors, "seatEachEnd", circuits, 7);
    }

    private static void checkSeats() throws ReflectiveOperationException {
        due("as it is", holds(0, 0, 0, 2), true);
        due("the first circuit is not at the first point", holds(0, 0, 2, 2), false);
        due("the last one is not at the first point", holds(0, 1, 0, 2), false);
        due("the last one is not taken there", holds(0, 0, 0, 1), false);
        due("nothing is taken there", holds(0, 0, 0, 0), false);
        due("the second circuit is not at the second point", holds(1, 1, 0, 3), false);
        due("the last one is not taken at the second point", holds(1, 0, 0, 2), false);
    }

    /** Two connectors that write into one row: each circuit finds a cavity, but the first loses it. */
    private static void checkProved() throws ReflectiveOperationException {
        Harnessboard board = ring();
        board.option();
        board.need(2, 1, 0);
        board.connector(2, 1, 9, true);
        board.connector(2, 1, 9, true);
        due("two circuits are seated", board.proof(0), 'p');
        due("each in its cavity", board.isSound(), true);
        Object list = inside(inside(board, "connectors"), "list");
        Field held = Array.get(list, 1).getClass().getDeclaredField("held");
        held.setAccessible(true);
        held.set(Array.get(list, 1), inside(Array.get(list, 0), "held"));
        due("it still counts as proved", board.proof(0), 'p');
        due("but the first circuit is in no cavity", board.isSound(), false);
    }

    public static void main(String[] args) throws ReflectiveOperationException {
        due("one that is not spoilt", ring().isSound(), true);
        checkWays();
        checkSplices();
        checkBoard();
        checkSeats();
        checkProved();
        end();
    }
}
