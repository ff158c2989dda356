/**
 * For each promise of the document its ordinary answers, its edges and its wrong inputs, worked out
 * by hand from the document's words.
 */
public final class PromisesTest extends Answers {
    private static void examples() {
        Harnessboard a = new Harnessboard();
        due("a point", a.point(), 0);
        due("a point", a.point(), 1);
        due("a branch", a.branch(0, 1, 7, false, 5), 0);
        due("a circuit", a.circuit(0, 1, -1, 3, 9, false), 0);
        due("a proof", a.proof(0), 'p');
        due("a drop", a.drop(0, 1), 21);
        due("a cost", a.cost(0), 21);
        Harnessboard b = new Harnessboard();
        due("b option", b.option(), 0);
        due("b option", b.option(), 1);
        due("b rule", b.rule(0, 1, 'f'), 1);
        due("b isBuildable", b.isBuildable(1), false);
        due("b isBuildable", b.isBuildable(3), true);
        due("b buildable", b.buildable(), 3);
        Harnessboard c = new Harnessboard();
        due("c point", c.point(), 0);
        due("c point", c.point(), 1);
        due("c branch", c.branch(0, 1, 4, false, 9), 0);
        due("c circuit", c.circuit(0, 1, -1, 2, 1, false), 0);
        due("c order", c.order(0), 1);
        due("c toCut", c.toCut(), 1);
        due("c cut", c.cut(), 6);
    }

    private static void promise01NewObject() {
        Harnessboard x = new Harnessboard();
        due("1 buildable", x.buildable(), 1);
        due("1 proof", x.proof(0), 'p');
        due("1 cost", x.cost(0), 0);
        due("1 laid", x.laid(0), 0);
        due("1 loose", x.loose(0), 0);
        due("1 lineTime", x.lineTime(0, 1), 0);
        due("1 tests", x.tests(0), 0);
        due("1 toCut", x.toCut(), 0);
        due("1 mend", x.mend(), 0);
        due("1 built", x.built(0), 0);
        due("1 isSound", x.isSound(), true);
        due("1 chassis", x.chassis(0), 0);
        due("1 limit", x.limit(9999), 9999);
        thrown("1 no option", INDEX, () -> x.costOf(0));
        thrown("1 no point", INDEX, () -> x.way(0, 0, false));
        thrown("1 no circuit", INDEX, () -> x.size(0));
        thrown("1 no connector", INDEX, () -> x.plugs(0, 0));
        thrown("1 no branch", INDEX, () -> x.width(0, 0));
    }

    private static void promise02Option() {
        Harnessboard x = new Harnessboard();
        for (int i = 0; i < 8; i++) {
            due("2 option", x.option(), i);
        }
        thrown("2 a ninth", STATE, x::option);
        due("2 choices", x.buildable(), 256);
    }

    private static void promise03Rule() {
        Harnessboard x = Vehicles.withOptions(3);
        thrown("3 one too low", INDEX, () -> x.rule(-1, 0, 'x'));
        thrown("3 one too high", INDEX, () -> x.rule(3, 3, 'x'));
        thrown("3 other too low", INDEX, () -> x.rule(0, -1, 'q'));
        thrown("3 other too high", INDEX, () -> x.rule(0, 3, 'x'));
        thrown("3 the same", ARGUMENT, () -> x.rule(1, 1, 'x'));
        thrown("3 no such kind", ARGUMENT, () -> x.rule(0, 1, 'X'));
        for (int i = 1; i <= 12; i++) {
            due("3 rule", x.rule(0, 1, i == 12 ? 'f' : 'x'), i);
        }
        thrown("3 a thirteenth", STATE, () -> x.rule(1, 2, 'f'));
        thrown("3 the argument first", ARGUMENT, () -> x.rule(1, 1, 'f'));
        thrown("3 the kind first", ARGUMENT, () -> x.rule(1, 2, 'y'));
        thrown("3 the index first", INDEX, () -> x.rule(1, 9, 'y'));
        due("3 nothing was added", x.isBuildable(2), true);
        due("3 both kinds hold", x.isBuildable(1), false);
    }

    private static void promise04IsBuildable() {
        Harnessboard x = Vehicles.withOptions(3);
        x.rule(0, 1, 'x');
        x.rule(1, 2, 'f');
        boolean[] due = {true, true, false, false, true, true, true, false};
        for (int choice = 0; choice < 8; choice++) {
            due("4 isBuildable " + choice, x.isBuildable(choice), due[choice]);
        }
        thrown("4 too high", ARGUMENT, () -> x.isBuildable(8));
        thrown("4 negative", ARGUMENT, () -> x.isBuildable(-1));
        thrown("4 the lowest int", ARGUMENT, () -> x.isBuildable(Integer.MIN_VALUE));
    }

    private static void promise05Buildable() {
        Harnessboard x = Vehicles.withOptions(3);
        due("5 without rules", x.buildable(), 8);
        x.rule(0, 1, 'x');
        due("5 with one", x.buildable(), 6);
        x.rule(1, 2, 'f');
        due("5 with two", x.buildable(), 5);
    }

    private static void promise06Point() {
        Harnessboard x = new Harnessboard();
        for (int i = 0; i < 10; i++) {
            due("6 point", x.point(), i);
        }
        thrown("6 an eleventh", STATE, x::point);
    }

    private static void promise07Branch() {
        Harnessboard x = Vehicles.withPoints(3);
        thrown("7 one too low", INDEX, () -> x.branch(-1, 0, 1, false, 1));
        thrown("7 one too high", INDEX, () -> x.branch(3, 3, 1, false, 1));
        thrown("7 other too low", INDEX, () -> x.branch(0, -1, 0, false, 1));
        thrown("7 other too high", INDEX, () -> x.branch(0, 3, 1, false, 1));
        thrown("7 the same", ARGUMENT, () -> x.branch(1, 1, 1, false, 1));
        thrown("7 length 0", ARGUMENT, () -> x.branch(0, 1, 0, false, 1));
        thrown("7 length 100", ARGUMENT, () -> x.branch(0, 1, 100, false, 1));
        thrown("7 bears 0", ARGUMENT, () -> x.branch(0, 1, 1, false, 0));
        thrown("7 bears 100", ARGUMENT, () -> x.branch(0, 1, 1, false, 100));
        thrown("7 nothing was added", ELEMENT, () -> x.way(0, 1, false));
        due("7 the least", x.branch(0, 1, 1, false, 1), 0);
        due("7 the greatest", x.branch(0, 1, 99, true, 99), 1);
        for (int i = 2; i < 16; i++) {
            due("7 branch", x.branch(2, 1, 50, false, 50), i);
        }
        thrown("7 a seventeenth", STATE, () -> x.branch(0, 2, 1, false, 1));
        thrown("7 the argument first", ARGUMENT, () -> x.branch(0, 0, 1, false, 1));
        thrown("7 the range first", ARGUMENT, () -> x.branch(0, 1, 1, false, 0));
        thrown("7 the index first", INDEX, () -> x.branch(0, 4, 0, false, 1));
    }

    private static void promise08Way() {
        Harnessboard x = Vehicles.withPoints(5);
        x.branch(0, 1, 3, true, 9);
        x.branch(1, 2, 4, false, 9);
        x.branch(2, 0, 9, false, 9);
        x.branch(2, 3, 99, false, 9);
        due("8 by the shorter sum", x.way(0, 2, false), 7);
        due("8 back", x.way(2, 0, false), 7);
        due("8 dry", x.way(0, 2, true), 9);
        due("8 dry, about", x.way(0, 1, true), 13);
        due("8 on", x.way(0, 3, false), 106);
        due("8 the same point", x.way(4, 4, true), 0);
        thrown("8 none", ELEMENT, () -> x.way(0, 4, false));
        thrown("8 from too low", INDEX, () -> x.way(-1, 0, false));
        thrown("8 from too high", INDEX, () -> x.way(5, 0, false));
        thrown("8 to too low", INDEX, () -> x.way(0, -1, false));
        thrown("8 to too high", INDEX, () -> x.way(0, 5, false));
        Harnessboard wet = Vehicles.withPoints(2);
        wet.branch(0, 1, 1, true, 1);
        thrown("8 none is dry", ELEMENT, () -> wet.way(0, 1, true));
        Harnessboard far = Vehicles.row(10, 99);
        due("8 the longest", far.way(0, 9, true), 891);
        due("8 the longest back", far.way(9, 0, false), 891);
    }

    private static void dueWay(String what, Harnessboard x, int from, int to, boolean isDry, int... points) {
        for (int i = 0; i < points.length; i++) {
            due(what + " " + i, x.wayPoint(from, to, isDry, i), points[i]);
        }
        thrown(what + " beyond", ELEMENT, () -> x.wayPoint(from, to, isDry, points.length));
        thrown(what + " below", ELEMENT, () -> x.wayPoint(from, to, isDry, -1));
    }

    private static void promise09WayPoint() {
        Harnessboard x = Vehicles.withPoints(7);
        x.branch(0, 4, 2, false, 9);
        x.branch(4, 5, 2, false, 9);
        x.branch(0, 3, 2, true, 9);
        x.branch(3, 5, 2, false, 9);
        x.branch(0, 1, 1, false, 9);
        x.branch(1, 2, 1, false, 9);
        x.branch(2, 5, 2, false, 9);
        dueWay("9 fewest branches, then lower points", x, 0, 5, false, 0, 3, 5);
        dueWay("9 dry", x, 0, 5, true, 0, 4, 5);
        dueWay("9 back", x, 5, 0, false, 5, 3, 0);
        dueWay("9 the same point", x, 6, 6, true, 6);
        dueWay("9 from the other side", x, 5, 1, false, 5, 2, 1);
        thrown("9 none", ELEMENT, () -> x.wayPoint(0, 6, false, 0));
        thrown("9 from", INDEX, () -> x.wayPoint(7, 0, false, 0));
        thrown("9 to", INDEX, () -> x.wayPoint(0, -1, false, 0));
        thrown("9 the index of a point first", INDEX, () -> x.wayPoint(0, 7, false, 99));
        Harnessboard y = Vehicles.withPoints(6);
        y.branch(0, 1, 1, false, 9);
        y.branch(1, 4, 1, false, 9);
        y.branch(4, 5, 1, false, 9);
        y.branch(0, 2, 1, false, 9);
        y.branch(2, 3, 1, false, 9);
        y.branch(3, 5, 1, false, 9);
        dueWay("9 lower where they first differ", y, 0, 5, false, 0, 1, 4, 5);
        dueWay("9 which depends on where it begins", y, 5, 0, false, 5, 3, 2, 0);
    }

    private static void promise10Circuit() {
        Harnessboard x = Vehicles.withPoints(4);
        thrown("10 first too low", INDEX, () -> x.circuit(-1, 0, -1, 1, 1, false));
        thrown("10 first too high", INDEX, () -> x.circuit(4, 0, -1, 1, 1, false));
        thrown("10 second too low", INDEX, () -> x.circuit(0, -1, -1, 1, 1, false));
        thrown("10 second too high", INDEX, () -> x.circuit(0, 4, 0, 1, 1, false));
        thrown("10 third too low", INDEX, () -> x.circuit(0, 1, -2, 1, 1, false));
        thrown("10 third too high", INDEX, () -> x.circuit(0, 0, 4, 1, 1, false));
        thrown("10 first and second", ARGUMENT, () -> x.circuit(1, 1, -1, 1, 1, false));
        thrown("10 first and third", ARGUMENT, () -> x.circuit(1, 2, 1, 1, 1, false));
        thrown("10 second and third", ARGUMENT, () -> x.circuit(1, 2, 2, 1, 1, false));
        thrown("10 size 0", ARGUMENT, () -> x.circuit(0, 1, -1, 0, 1, false));
        thrown("10 size 10", ARGUMENT, () -> x.circuit(0, 1, -1, 10, 1, false));
        thrown("10 amperes -1", ARGUMENT, () -> x.circuit(0, 1, -1, 1, -1, false));
        thrown("10 amperes 100", ARGUMENT, () -> x.circuit(0, 1, -1, 1, 100, false));
        due("10 the least", x.circuit(0, 1, -1, 1, 0, false), 0);
        due("10 the greatest", x.circuit(3, 2, 1, 9, 99, true), 1);
        for (int i = 2; i < 12; i++) {
            due("10 circuit", x.circuit(0, 1, 2, 5, 50, false), i);
        }
        thrown("10 a thirteenth", STATE, () -> x.circuit(0, 1, -1, 1, 1, false));
        thrown("10 the argument first", ARGUMENT, () -> x.circuit(0, 0, -1, 1, 1, false));
        thrown("10 the range first", ARGUMENT, () -> x.circuit(0, 1, -1, 0, 1, false));
        thrown("10 the index first", INDEX, () -> x.circuit(0, 0, 7, 0, 1, false));
        due("10 nothing was added", x.tests(0), 4);
    }

    private static void promise11Need() {
        Harnessboard x = Vehicles.withPoints(2);
        x.option();
        x.option();
        x.circuit(0, 1, -1, 1, 1, false);
        due("11 at first", x.needs(0, 0), true);
        due("11 the set before, at first", x.need(0, 3, 1), 0);
        due("11 the first set before", x.need(0, 2, 0), 3);
        thrown("11 circuit", INDEX, () -> x.need(1, 0, 0));
        thrown("11 circuit first", INDEX, () -> x.need(-1, 4, 0));
        thrown("11 all", ARGUMENT, () -> x.need(0, 4, 0));
        thrown("11 all negative", ARGUMENT, () -> x.need(0, -1, 0));
        thrown("11 none", ARGUMENT, () -> x.need(0, 0, 4));
        thrown("11 none negative", ARGUMENT, () -> x.need(0, 0, -4));
        due("11 nothing was told", x.need(0, 0, 0), 2);
    }

    private static void promise12Needs() {
        Harnessboard x = Vehicles.withPoints(2);
        x.option();
        x.option();
        x.option();
        x.circuit(0, 1, -1, 1, 1, false);
        x.need(0, 3, 4);
        for (int choice = 0; choice < 8; choice++) {
            due("12 needs " + choice, x.needs(choice, 0), choice == 3);
        }
        x.need(0, 1, 1);
        due("12 never with", x.needs(1, 0), false);
        due("12 never without", x.needs(0, 0), false);
        x.need(0, 0, 6);
        due("12 none of either", x.needs(2, 0), false);
        due("12 none of the other", x.needs(4, 0), false);
        due("12 one that is not told", x.needs(1, 0), true);
        thrown("12 circuit", INDEX, () -> x.needs(8, 1));
        thrown("12 circuit below", INDEX, () -> x.needs(0, -1));
        thrown("12 choice", ARGUMENT, () -> x.needs(8, 0));
        thrown("12 choice below", ARGUMENT, () -> x.needs(-8, 0));
    }

    private static void promise13CanBeLaid() {
        Harnessboard x = Vehicles.withPoints(4);
        x.circuit(0, 1, -1, 1, 1, false);
        x.circuit(0, 1, -1, 1, 1, true);
        x.circuit(0, 1, 2, 1, 1, false);
        x.circuit(0, 1, 2, 1, 1, true);
        due("13 without branches", x.canBeLaid(0), false);
        x.branch(0, 1, 5, true, 9);
        due("13 along a wet one", x.canBeLaid(0), true);
        due("13 dry, along a wet one", x.canBeLaid(1), false);
        due("13 not the third end", x.canBeLaid(2), false);
        x.branch(3, 2, 5, false, 9);
        x.branch(3, 1, 5, false, 9);
        due("13 all three", x.canBeLaid(2), true);
        due("13 dry, not all three", x.canBeLaid(3), false);
        x.branch(3, 0, 50, false, 9);
        due("13 dry", x.canBeLaid(1), true);
        due("13 dry, all three", x.canBeLaid(3), true);
        thrown("13 circuit", INDEX, () -> x.canBeLaid(4));
        thrown("13 circuit below", INDEX, () -> x.canBeLaid(-1));
    }

    private static void promise14Splice() {
        Harnessboard x = Vehicles.withPoints(5);
        x.circuit(0, 1, 2, 1, 1, false);
        x.circuit(0, 1, -1, 1, 1, false);
        x.circuit(0, 1, 2, 1, 1, true);
        thrown("14 cannot be laid", ELEMENT, () -> x.splice(0));
        x.branch(0, 4, 2, true, 9);
        x.branch(1, 4, 2, false, 9);
        x.branch(2, 4, 2, false, 9);
        due("14 in the middle", x.splice(0), 4);
        thrown("14 two ends", ELEMENT, () -> x.splice(1));
        thrown("14 dry cannot be laid", ELEMENT, () -> x.splice(2));
        x.branch(0, 1, 2, false, 9);
        due("14 of like ones the lowest", x.splice(0), 0);
        due("14 dry, an end", x.splice(2), 1);
        x.branch(0, 3, 1, false, 9);
        x.branch(1, 3, 1, false, 9);
        x.branch(2, 3, 1, false, 9);
        due("14 a better one", x.splice(0), 3);
        thrown("14 circuit", INDEX, () -> x.splice(3));
        thrown("14 circuit below", INDEX, () -> x.splice(-1));
    }

    private static void promise15Wires() {
        Harnessboard x = Vehicles.withPoints(4);
        x.circuit(0, 1, -1, 1, 1, false);
        x.circuit(0, 1, 2, 1, 1, false);
        due("15 cannot be laid", x.wires(0), 0);
        due("15 three, cannot be laid", x.wires(1), 0);
        x.branch(0, 3, 1, false, 9);
        x.branch(1, 3, 1, false, 9);
        due("15 two ends", x.wires(0), 1);
        due("15 still not", x.wires(1), 0);
        x.branch(2, 3, 1, false, 9);
        due("15 three ends", x.wires(1), 3);
        x.circuit(0, 3, 2, 1, 1, false);
        due("15 an end is the splice", x.wires(2), 2);
        thrown("15 circuit", INDEX, () -> x.wires(3));
        thrown("15 circuit below", INDEX, () -> x.wires(-1));
    }

    private static void promise16WireLength() {
        Harnessboard x = Vehicles.withPoints(4);
        x.branch(0, 3, 4, false, 9);
        x.branch(1, 3, 5, false, 9);
        x.branch(2, 3, 6, false, 9);
        x.circuit(2, 0, 1, 1, 1, false);
        x.circuit(3, 2, 1, 1, 1, false);
        x.circuit(0, 2, -1, 1, 1, false);
        due("16 by the ends", x.wireLength(0, 0), 6);
        due("16 the second", x.wireLength(0, 1), 4);
        due("16 the third", x.wireLength(0, 2), 5);
        due("16 not of the splice", x.wireLength(1, 0), 6);
        due("16 the last one", x.wireLength(1, 1), 5);
        due("16 two ends", x.wireLength(2, 0), 10);
        thrown("16 beyond", ELEMENT, () -> x.wireLength(1, 2));
        thrown("16 beyond two ends", ELEMENT, () -> x.wireLength(2, 1));
        thrown("16 below", ELEMENT, () -> x.wireLength(0, -1));
        thrown("16 far below", ELEMENT, () -> x.wireLength(0, Integer.MIN_VALUE));
        thrown("16 circuit", INDEX, () -> x.wireLength(3, 0));
        thrown("16 circuit below", INDEX, () -> x.wireLength(-1, 9));
        x.point();
        x.circuit(0, 4, -1, 1, 1, false);
        thrown("16 cannot be laid", ELEMENT, () -> x.wireLength(3, 0));
    }

    private static void promise17GoesThrough() {
        Harnessboard x = Vehicles.withPoints(4);
        x.branch(0, 1, 3, false, 9);
        x.branch(0, 1, 2, true, 9);
        x.branch(1, 0, 2, false, 9);
        x.branch(1, 2, 2, false, 9);
        x.circuit(0, 1, -1, 1, 1, false);
        x.circuit(0, 1, -1, 1, 1, true);
        x.circuit(0, 2, -1, 1, 1, false);
        x.circuit(0, 3, -1, 1, 1, false);
        due("17 a longer one", x.goesThrough(0, 0), false);
        due("17 the lower branch", x.goesThrough(0, 1), true);
        due("17 the higher branch", x.goesThrough(0, 2), false);
        due("17 dry", x.goesThrough(1, 2), true);
        due("17 dry, not a wet one", x.goesThrough(1, 1), false);
        due("17 both of a way", x.goesThrough(2, 1), true);
        due("17 both of a way", x.goesThrough(2, 3), true);
        due("17 cannot be laid", x.goesThrough(3, 1), false);
        x.circuit(2, 0, 1, 1, 1, false);
        due("17 three ends", x.goesThrough(4, 3), true);
        due("17 three ends", x.goesThrough(4, 1), true);
        due("17 three ends, not", x.goesThrough(4, 0), false);
        Harnessboard y = Vehicles.withPoints(6);
        int[][] pairs = {{0, 1}, {1, 4}, {4, 5}, {0, 2}, {2, 3}, {3, 5}};
        for (int[] pair : pairs) {
            y.branch(pair[0], pair[1], 1, false, 9);
        }
        y.circuit(0, 5, -1, 1, 1, false);
        y.circuit(5, 0, -1, 1, 1, false);
        for (int branch = 0; branch < 6; branch++) {
            due("17 from the first end " + branch, y.goesThrough(0, branch), branch < 3);
            due("17 from the first end, back " + branch, y.goesThrough(1, branch), branch >= 3);
        }
        y.branch(0, 5, 1, false, 9);
        for (int branch = 0; branch < 7; branch++) {
            due("17 by a new branch " + branch, y.goesThrough(0, branch), branch == 6);
        }
        due("17 with as many wires", y.wires(0), 1);
        due("17 with as much length", y.cost(0), 2);
        thrown("17 circuit", INDEX, () -> x.goesThrough(5, 0));
        thrown("17 circuit below", INDEX, () -> x.goesThrough(-1, 0));
        thrown("17 branch", INDEX, () -> x.goesThrough(0, 4));
        thrown("17 branch below", INDEX, () -> x.goesThrough(0, -1));
    }

    private static void promise18Size() {
        Harnessboard x = Vehicles.withPoints(2);
        x.circuit(0, 1, -1, 4, 1, false);
        x.circuit(1, 0, -1, 5, 1, false);
        due("18 its own", x.size(0), 4);
        x.change(0, 100, 9);
        x.change(0, 200, 8);
        x.change(0, 100, 7);
        due("18 before", x.size(0), 4);
        x.chassis(99);
        due("18 one ahead", x.size(0), 4);
        x.chassis(100);
        due("18 of like ones the last", x.size(0), 7);
        x.chassis(199);
        due("18 up to the next", x.size(0), 7);
        x.chassis(9999);
        due("18 the greatest chassis", x.size(0), 8);
        due("18 another circuit", x.size(1), 5);
        thrown("18 circuit", INDEX, () -> x.size(2));
        thrown("18 circuit below", INDEX, () -> x.size(-1));
    }

    private static void promise19Drop() {
        Harnessboard x = Vehicles.withPoints(6);
        x.branch(0, 3, 4, false, 99);
        x.branch(1, 3, 5, false, 99);
        x.branch(2, 3, 6, false, 99);
        x.circuit(0, 1, 2, 4, 7, false);
        x.circuit(3, 1, 2, 1, 10, false);
        x.circuit(0, 3, 2, 1, 10, false);
        x.circuit(0, 2, -1, 3, 7, false);
        x.circuit(0, 5, -1, 3, 7, false);
        due("19 the second end, cut", x.drop(0, 1), 15);
        due("19 the third end, cut", x.drop(0, 2), 17);
        due("19 the first is the splice", x.drop(1, 1), 50);
        due("19 the first is the splice", x.drop(1, 2), 60);
        due("19 the second is the splice", x.drop(2, 1), 40);
        due("19 beyond it", x.drop(2, 2), 100);
        due("19 two ends, cut", x.drop(3, 1), 23);
        x.change(3, 0, 7);
        due("19 by the size at the chassis", x.drop(3, 1), 10);
        thrown("19 no third end", ELEMENT, () -> x.drop(3, 2));
        thrown("19 no fourth end", ELEMENT, () -> x.drop(0, 3));
        thrown("19 the first end", ELEMENT, () -> x.drop(0, 0));
        thrown("19 below", ELEMENT, () -> x.drop(0, -1));
        thrown("19 cannot be laid", ELEMENT, () -> x.drop(4, 1));
        thrown("19 circuit", INDEX, () -> x.drop(5, 1));
        thrown("19 circuit below", INDEX, () -> x.drop(-1, 0));
    }

    private static void promise20Limit() {
        Harnessboard x = new Harnessboard();
        due("20 at first", x.limit(0), 9999);
        thrown("20 below", ARGUMENT, () -> x.limit(-1));
        thrown("20 beyond", ARGUMENT, () -> x.limit(10000));
        due("20 the least", x.limit(9999), 0);
        due("20 the greatest", x.limit(5), 9999);
    }

    private static void promise21Width() {
        Harnessboard x = Vehicles.row(3, 1);
        x.option();
        x.circuit(0, 2, -1, 3, 1, false);
        x.circuit(1, 0, -1, 5, 1, false);
        x.circuit(0, 1, 2, 1, 1, false);
        x.need(1, 1, 0);
        due("21 without", x.width(0, 0), 4);
        due("21 with", x.width(1, 0), 9);
        due("21 the other branch", x.width(1, 1), 4);
        x.change(0, 10, 9);
        x.chassis(10);
        due("21 at the chassis", x.width(0, 1), 10);
        x.point();
        x.circuit(0, 3, -1, 9, 1, false);
        due("21 one that cannot be laid", x.width(0, 0), 10);
        x.rule(0, x.option(), 'f');
        due("21 not buildable", x.width(1, 0), 15);
        thrown("21 branch", INDEX, () -> x.width(9, 2));
        thrown("21 branch below", INDEX, () -> x.width(0, -1));
        thrown("21 choice", ARGUMENT, () -> x.width(4, 0));
        thrown("21 choice below", ARGUMENT, () -> x.width(-1, 0));
    }

    private static void promise22Connector() {
        Harnessboard x = Vehicles.withPoints(2);
        thrown("22 point", INDEX, () -> x.connector(2, 0, 1, true));
        thrown("22 point below", INDEX, () -> x.connector(-1, 1, 1, true));
        thrown("22 cavities 0", ARGUMENT, () -> x.connector(0, 0, 1, true));
        thrown("22 cavities 10", ARGUMENT, () -> x.connector(0, 10, 1, true));
        thrown("22 most 0", ARGUMENT, () -> x.connector(0, 1, 0, true));
        thrown("22 most 10", ARGUMENT, () -> x.connector(0, 1, 10, true));
        due("22 the least", x.connector(0, 1, 1, true), 0);
        due("22 the greatest", x.connector(0, 9, 9, false), 1);
        for (int i = 2; i < 6; i++) {
            due("22 connector", x.connector(1, 5, 5, true), i);
        }
        thrown("22 a seventh", STATE, () -> x.connector(0, 1, 1, true));
        thrown("22 the argument first", ARGUMENT, () -> x.connector(0, 1, 0, true));
        thrown("22 the index first", INDEX, () -> x.connector(3, 1, 0, true));
    }

    /** Connectors 0 unsealed, 1 sealed up to 3, 2 sealed, all at point 0; 3 at point 1. */
    private static Harnessboard seated() {
        Harnessboard x = Vehicles.row(3, 1);
        x.option();
        x.connector(0, 1, 9, false);
        x.connector(0, 2, 3, true);
        x.connector(0, 1, 9, true);
        x.connector(1, 2, 4, true);
        x.circuit(0, 1, -1, 4, 1, false);
        x.circuit(0, 2, -1, 3, 1, true);
        x.circuit(2, 1, 0, 2, 1, true);
        x.circuit(0, 2, -1, 3, 1, false);
        x.need(0, 1, 0);
        return x;
    }

    private static void promise23InCavity() {
        Harnessboard x = seated();
        due("23 the dry one need not be sealed", x.inCavity(0, 0, 0), 1);
        due("23 the lowest connector with a free one", x.inCavity(0, 1, 0), 2);
        due("23 the lowest free one", x.inCavity(0, 1, 1), 3);
        thrown("23 free", ELEMENT, () -> x.inCavity(0, 2, 0));
        due("23 for such a size, and sealed", x.inCavity(1, 2, 0), 0);
        due("23 by rising numbers", x.inCavity(1, 3, 0), 0);
        due("23 the next one", x.inCavity(1, 3, 1), 2);
        due("23 without the first", x.inCavity(0, 3, 0), 2);
        thrown("23 free too", ELEMENT, () -> x.inCavity(0, 3, 1));
        x.change(1, 0, 9);
        due("23 at the chassis", x.inCavity(0, 0, 0), 1);
        x.change(2, 0, 4);
        due("23 a size too great", x.inCavity(0, 2, 0), 2);
        x.point();
        x.circuit(3, 0, -1, 3, 1, false);
        due("23 also one that cannot be laid", x.inCavity(0, 1, 1), 4);
        thrown("23 connector", INDEX, () -> x.inCavity(0, 4, 0));
        thrown("23 connector below", INDEX, () -> x.inCavity(9, -1, 0));
        thrown("23 cavity", INDEX, () -> x.inCavity(9, 1, 2));
        thrown("23 cavity below", INDEX, () -> x.inCavity(0, 1, -1));
        thrown("23 choice", ARGUMENT, () -> x.inCavity(2, 2, 0));
        thrown("23 choice below", ARGUMENT, () -> x.inCavity(-2, 2, 0));
    }

    private static void promise24Plugs() {
        Harnessboard x = seated();
        due("24 not sealed", x.plugs(0, 0), 0);
        due("24 full", x.plugs(0, 1), 0);
        due("24 free", x.plugs(0, 2), 1);
        due("24 one of two", x.plugs(0, 3), 1);
        due("24 taken by the choice", x.plugs(1, 2), 0);
        due("24 both", x.plugs(1, 3), 0);
        x.need(1, 1, 0);
        due("24 not sealed, free", x.plugs(0, 0), 0);
        due("24 again", x.plugs(0, 1), 1);
        thrown("24 connector", INDEX, () -> x.plugs(9, 4));
        thrown("24 connector below", INDEX, () -> x.plugs(0, -1));
        thrown("24 choice", ARGUMENT, () -> x.plugs(2, 0));
        thrown("24 choice below", ARGUMENT, () -> x.plugs(-1, 0));
    }

    private static void promise25Loose() {
        Harnessboard x = seated();
        due("25 none", x.loose(0), 0);
        due("25 none with", x.loose(1), 0);
        x.circuit(0, 1, -1, 5, 1, false);
        due("25 one finds no such size", x.loose(0), 1);
        due("25 both ends", x.loose(1), 2);
        x.circuit(2, 1, -1, 1, 1, true);
        due("25 no cavity is free, no connector is no matter", x.loose(1), 3);
        x.connector(1, 9, 9, false);
        due("25 one of them is dry", x.loose(1), 2);
        x.connector(1, 9, 9, true);
        due("25 the other one, too", x.loose(1), 1);
        thrown("25 choice", ARGUMENT, () -> x.loose(2));
        thrown("25 choice below", ARGUMENT, () -> x.loose(-1));
        Harnessboard y = Vehicles.row(2, 1);
        y.connector(0, 9, 9, false);
        y.circuit(0, 1, -1, 1, 1, false);
        due("25 not sealed", y.loose(0), 1);
    }

    private static void promise26Proof() {
        Harnessboard x = Vehicles.row(3, 10);
        x.point();
        x.option();
        x.option();
        x.rule(0, 1, 'x');
        x.circuit(0, 2, -1, 5, 10, false);
        due("26 proved", x.proof(0), 'p');
        x.limit(40);
        due("26 at the limit", x.proof(0), 'p');
        x.limit(39);
        due("26 a drop above the limit", x.proof(0), 'd');
        x.connector(2, 1, 4, true);
        due("26 loose goes ahead of the drop", x.proof(0), 'l');
        x.branch(0, 2, 1, false, 4);
        due("26 width goes ahead of loose", x.proof(0), 'w');
        x.circuit(0, 3, -1, 1, 1, false);
        x.need(1, 1, 0);
        due("26 which cannot be laid goes ahead of width", x.proof(1), 'n');
        due("26 only of what it needs", x.proof(2), 'w');
        due("26 not buildable goes ahead of all", x.proof(3), 'b');
        thrown("26 choice", ARGUMENT, () -> x.proof(4));
        thrown("26 choice below", ARGUMENT, () -> x.proof(-1));
        Harnessboard y = Vehicles.row(2, 9);
        y.point();
        y.branch(1, 2, 9, false, 6);
        y.circuit(0, 1, 2, 6, 10, false);
        due("26 as much as it bears", y.proof(0), 'p');
        y.limit(15);
        due("26 the drop at the third end", y.proof(0), 'd');
        y.change(0, 5, 7);
        y.chassis(5);
        due("26 the size at the chassis", y.proof(0), 'w');
        Harnessboard z = Vehicles.row(3, 2);
        z.circuit(0, 1, 2, 1, 10, false);
        z.limit(30);
        due("26 the third end counts, too", z.proof(0), 'd');
        z.limit(40);
        due("26 the third end is at the limit", z.proof(0), 'p');
        Harnessboard first = Vehicles.withPoints(2);
        first.branch(0, 1, 1, false, 4);
        first.branch(1, 0, 9, false, 9);
        first.circuit(0, 1, -1, 5, 1, false);
        due("26 the first branch counts, too", first.proof(0), 'w');
    }

    private static void promise27Unproved() {
        Harnessboard x = Vehicles.row(2, 10);
        x.option();
        x.option();
        x.option();
        thrown("27 all are proved", ELEMENT, x::unproved);
        x.circuit(0, 1, -1, 1, 99, false);
        x.need(0, 2, 0);
        x.limit(100);
        due("27 by rising bits", x.unproved(), 2);
        x.rule(1, 2, 'f');
        due("27 one that is buildable", x.unproved(), 6);
        x.rule(1, 0, 'f');
        due("27 the last one", x.unproved(), 7);
        x.rule(0, 2, 'x');
        thrown("27 those that are not proved are not buildable", ELEMENT, x::unproved);
        x.need(0, 0, 0);
        due("27 the first one", x.unproved(), 0);
    }

    private static void promise28Module() {
        Harnessboard x = Vehicles.withPoints(2);
        thrown("28 no circuits", ARGUMENT, () -> x.module(1));
        thrown("28 none at all", ARGUMENT, () -> x.module(0));
        x.circuit(0, 1, -1, 1, 1, false);
        x.circuit(0, 1, -1, 1, 1, false);
        thrown("28 no such circuit", ARGUMENT, () -> x.module(5));
        thrown("28 negative", ARGUMENT, () -> x.module(-1));
        thrown("28 the lowest int", ARGUMENT, () -> x.module(Integer.MIN_VALUE));
        for (int i = 0; i < 6; i++) {
            due("28 module", x.module(i % 3 + 1), i);
        }
        thrown("28 a seventh", STATE, () -> x.module(1));
        thrown("28 the argument first", ARGUMENT, () -> x.module(0));
        thrown("28 the circuit first", ARGUMENT, () -> x.module(4));
    }

    private static void promise29Built() {
        Harnessboard x = Vehicles.withPoints(2);
        x.option();
        x.option();
        for (int i = 0; i < 4; i++) {
            x.circuit(0, 1, -1, 1, 1, false);
        }
        thrown("29 no modules", ELEMENT, () -> x.built(0));
        x.module(0b0011);
        x.module(0b1001);
        x.module(0b0110);
        x.module(0b1100);
        due("29 the lowest bits", x.built(0), 0b0110);
        x.module(0b0111);
        thrown("29 choice", ARGUMENT, () -> x.built(4));
        thrown("29 choice below", ARGUMENT, () -> x.built(-1));
        x.module(0b1111);
        due("29 the fewest", x.built(0), 0b100000);
        x.need(3, 1, 0);
        due("29 just what it needs", x.built(0), 0b010000);
        due("29 with the option", x.built(1), 0b100000);
        x.need(2, 2, 0);
        due("29 two circuits", x.built(0), 0b000001);
        x.need(0, 2, 0);
        thrown("29 none so", ELEMENT, () -> x.built(0));
        x.need(1, 2, 0);
        due("29 nothing is needed", x.built(0), 0);
        due("29 by the other option", x.built(2), 0b010000);
        Harnessboard y = Vehicles.withPoints(2);
        for (int i = 0; i < 3; i++) {
            y.circuit(0, 1, -1, 1, 1, false);
        }
        y.module(0b011);
        y.module(0b110);
        thrown("29 none in two of them", ELEMENT, () -> y.built(0));
        y.module(0b001);
        due("29 two modules", y.built(0), 0b110);
    }

    private static void promise30Order() {
        Harnessboard x = Vehicles.row(2, 1);
        x.option();
        x.option();
        x.rule(0, 1, 'x');
        thrown("30 not buildable", UNSUPPORTED, () -> x.order(3));
        thrown("30 choice", ARGUMENT, () -> x.order(4));
        thrown("30 choice below", ARGUMENT, () -> x.order(-1));
        for (int i = 1; i <= 10; i++) {
            due("30 order", x.order(i % 3), i);
        }
        thrown("30 an eleventh", STATE, () -> x.order(0));
        thrown("30 not buildable first", UNSUPPORTED, () -> x.order(3));
        thrown("30 choice first", ARGUMENT, () -> x.order(7));
        x.circuit(0, 1, -1, 1, 1, false);
        due("30 ten are ordered", x.toCut(), 10);
        x.cut();
        due("30 then nothing is", x.order(0), 1);
    }

    private static void promise31Stock() {
        Harnessboard x = new Harnessboard();
        thrown("31 size 0", ARGUMENT, () -> x.stock(0, 3, 1));
        thrown("31 size 10", ARGUMENT, () -> x.stock(10, 3, 1));
        thrown("31 length 2", ARGUMENT, () -> x.stock(1, 2, 1));
        thrown("31 length 1000", ARGUMENT, () -> x.stock(1, 1000, 1));
        thrown("31 many 0", ARGUMENT, () -> x.stock(1, 3, 0));
        thrown("31 many 21", ARGUMENT, () -> x.stock(1, 3, 21));
        due("31 the least", x.stock(1, 3, 1), 1);
        due("31 the greatest", x.stock(9, 999, 20), 20);
        due("31 another kind", x.stock(1, 999, 4), 4);
        due("31 another kind", x.stock(2, 3, 5), 5);
        due("31 more", x.stock(1, 3, 20), 21);
        due("31 more", x.stock(9, 999, 20), 40);
        for (int i = 0; i < 490; i++) {
            due("31 many kinds", x.stock(5, 3 + i, 2), 2);
        }
        due("31 the first of many", x.inStock(5, 3), 2);
        due("31 the last of many", x.inStock(5, 492), 2);
    }

    private static void promise32InStock() {
        Harnessboard x = new Harnessboard();
        due("32 none", x.inStock(1, 3), 0);
        x.stock(3, 50, 7);
        due("32 of this kind", x.inStock(3, 50), 7);
        due("32 another length", x.inStock(3, 51), 0);
        due("32 another size", x.inStock(2, 50), 0);
        due("32 a kind that is near by its number", x.inStock(2, 999), 0);
        due("32 the greatest", x.inStock(9, 999), 0);
        thrown("32 size 0", ARGUMENT, () -> x.inStock(0, 3));
        thrown("32 size 10", ARGUMENT, () -> x.inStock(10, 3));
        thrown("32 length 2", ARGUMENT, () -> x.inStock(1, 2));
        thrown("32 length 1000", ARGUMENT, () -> x.inStock(1, 1000));
    }

    private static void promise33ToCut() {
        Harnessboard x = Vehicles.row(4, 5);
        x.option();
        x.circuit(0, 1, -1, 2, 1, false);
        x.circuit(0, 1, 2, 2, 1, false);
        x.need(1, 1, 0);
        due("33 nothing ordered", x.toCut(), 0);
        x.order(0);
        due("33 one", x.toCut(), 1);
        x.order(1);
        due("33 and three more", x.toCut(), 4);
        x.stock(2, 7, 2);
        due("33 less those in stock", x.toCut(), 2);
        due("33 which stay there", x.inStock(2, 7), 2);
        x.stock(2, 8, 1);
        x.stock(3, 7, 1);
        due("33 other kinds are no help", x.toCut(), 2);
        x.need(0, 1, 0);
        due("33 what is needed by then", x.toCut(), 1);
        x.stock(2, 7, 9);
        due("33 all in stock", x.toCut(), 0);
        x.point();
        x.circuit(0, 4, -1, 9, 1, false);
        due("33 one that cannot be laid", x.toCut(), 0);
        x.branch(0, 4, 1, false, 9);
        due("33 one that can by then", x.toCut(), 2);
        x.change(0, 10, 4);
        x.chassis(10);
        due("33 at the chassis when it was ordered", x.toCut(), 2);
        x.order(1);
        due("33 at the new chassis", x.toCut(), 4);
    }

    private static void promise34Cut() {
        Harnessboard x = Vehicles.row(3, 5);
        thrown("34 nothing is ordered", STATE, x::cut);
        x.order(0);
        due("34 no wires", x.cut(), 0);
        thrown("34 then nothing is ordered", STATE, x::cut);
        x.circuit(0, 1, -1, 3, 1, false);
        x.circuit(0, 2, -1, 3, 1, false);
        x.circuit(1, 2, -1, 1, 1, false);
        x.order(0);
        x.order(0);
        due("34 five for each size, one for a length, one for each", x.cut(), 5 + 2 + 5 + 2 + 1 + 2);
        x.order(0);
        due("34 also at first, again", x.cut(), 5 + 1 + 5 + 1 + 1 + 1);
        x.stock(3, 12, 3);
        x.order(0);
        x.order(0);
        due("34 with stock of a length", x.cut(), 5 + 2 + 5 + 2);
        due("34 which is taken", x.inStock(3, 12), 1);
        x.stock(1, 7, 2);
        x.stock(3, 7, 1);
        x.order(0);
        due("34 all of it from stock", x.cut(), 0);
        due("34 the rest of it", x.inStock(1, 7), 1);
        due("34 none of it is left", x.inStock(3, 7), 0);
        due("34 nor of that", x.inStock(3, 12), 0);
        x.change(2, 100, 3);
        x.order(0);
        x.chassis(100);
        x.order(0);
        due("34 sizes at their chassis", x.cut(), 5 + 2 + 1 + 3);
        due("34 from stock at the first chassis", x.inStock(1, 7), 0);
        Harnessboard y = Vehicles.row(3, 99);
        y.circuit(0, 2, -1, 9, 1, false);
        y.stock(9, 198, 20);
        y.order(0);
        due("34 two more are cut", y.toCut(), 1);
        y.stock(9, 200, 1);
        due("34 just this length", y.cut(), 0);
    }

    /** All circuits, with three wires of three lengths each, and eight changes at ten chassis. */
    private static void promise34AllKinds() {
        Harnessboard x = Vehicles.withPoints(7);
        for (int i = 1; i < 7; i++) {
            x.branch(0, i, 10 * i, false, 99);
        }
        int[][] ends = {{1, 2, 3}, {4, 5, 6}};
        for (int i = 0; i < 12; i++) {
            x.circuit(ends[i % 2][0], ends[i % 2][1], ends[i % 2][2], 1 + i % 9, 1, false);
        }
        int[] sizes = {1, 2, 3, 4, 5, 6, 7, 8, 9, 1, 2, 3};
        for (int i = 0; i < 8; i++) {
            x.change(i, 100 + i, 9 - i);
        }
        java.util.TreeMap<Integer, Integer> kinds = new java.util.TreeMap<>();
        for (int order = 0; order < 10; order++) {
            x.chassis(99 + order);
            x.order(0);
            if (order > 0 && order < 9) {
                sizes[order - 1] = 10 - order;
            }
            for (int i = 0; i < 12; i++) {
                for (int end : ends[i % 2]) {
                    kinds.merge(1000 * sizes[i] - end, 1, Integer::sum);
                }
            }
        }
        due("34 all wires", x.toCut(), 360);
        int cost = 360;
        int ahead = 0;
        for (int kind : kinds.keySet()) {
            int size = (kind + 999) / 1000;
            cost += size == ahead ? 1 : 5;
            ahead = size;
        }
        due("34 all kinds", x.cut(), cost);
    }

    private static void promise35Laid() {
        Harnessboard x = Vehicles.row(3, 5);
        x.option();
        x.circuit(0, 1, -1, 3, 1, false);
        x.circuit(0, 2, -1, 3, 1, false);
        x.point();
        x.circuit(0, 3, -1, 3, 1, false);
        x.need(1, 1, 0);
        due("35 needed, and can be laid", x.laid(0), 1);
        due("35 by the option", x.laid(1), 2);
        x.branch(3, 0, 1, false, 9);
        due("35 now it can", x.laid(1), 3);
        thrown("35 choice", ARGUMENT, () -> x.laid(2));
        thrown("35 choice below", ARGUMENT, () -> x.laid(-1));
    }

    private static void dueRow(String what, Harnessboard x, int choice, int... circuits) {
        due(what, x.laid(choice), circuits.length);
        for (int i = 0; i < circuits.length; i++) {
            due(what + " " + i, x.laidAt(choice, i), circuits[i]);
        }
        thrown(what + " beyond", ELEMENT, () -> x.laidAt(choice, circuits.length));
        thrown(what + " below", ELEMENT, () -> x.laidAt(choice, -1));
    }

    private static void promise36LaidAt() {
        Harnessboard x = Vehicles.row(5, 5);
        x.option();
        x.circuit(0, 1, -1, 3, 1, false);
        x.circuit(1, 2, -1, 3, 1, false);
        x.circuit(2, 4, -1, 1, 1, false);
        dueRow("36 the greatest sum, then the lowest", x, 0, 2, 0, 1);
        x.circuit(0, 2, -1, 2, 1, false);
        dueRow("36 the greater size goes ahead", x, 0, 2, 0, 1, 3);
        x.change(3, 10, 4);
        x.chassis(10);
        dueRow("36 at the chassis", x, 0, 2, 3, 0, 1);
        x.change(3, 10, 3);
        dueRow("36 of like sizes the lower number", x, 0, 2, 0, 1, 3);
        x.need(0, 1, 0);
        dueRow("36 only of what is needed", x, 0, 2, 1, 3);
        x.need(1, 1, 0);
        dueRow("36 like sums", x, 0, 2, 3);
        dueRow("36 by the other choice", x, 1, 2, 0, 1, 3);
        thrown("36 choice", ARGUMENT, () -> x.laidAt(2, 0));
        thrown("36 choice first", ARGUMENT, () -> x.laidAt(-1, 99));
        dueRow("36 an empty board", new Harnessboard(), 0);
        Harnessboard y = Vehicles.row(4, 2);
        y.circuit(0, 1, -1, 1, 1, false);
        y.circuit(2, 0, -1, 1, 1, false);
        y.circuit(2, 3, -1, 9, 1, false);
        y.circuit(1, 3, -1, 1, 1, false);
        dueRow("36 laid as soon as nothing goes ahead", y, 0, 0, 1, 2, 3);
    }

    /** Each circuit that is told shares the branch of the one before. */
    private static void promise36Later() {
        Harnessboard x = Vehicles.row(2, 2);
        for (int i = 0; i < 12; i++) {
            x.circuit(0, 1, -1, 1 + i % 9, 1, false);
        }
        dueRow("36 a full board", x, 0, 8, 7, 6, 5, 4, 3, 2, 11, 1, 10, 0, 9);
        due("36 a full line", x.lineTime(0, 4), 15);
    }

    private static void promise37LineTime() {
        Harnessboard x = Vehicles.row(9, 1);
        due("37 nothing", x.lineTime(0, 4), 0);
        x.circuit(0, 4, -1, 1, 1, false);
        due("37 one circuit", x.lineTime(0, 1), 7);
        due("37 with empty places", x.lineTime(0, 4), 7);
        x.circuit(4, 6, -1, 1, 1, false);
        x.circuit(6, 7, -1, 1, 1, false);
        x.circuit(7, 8, -1, 1, 1, false);
        due("37 one place", x.lineTime(0, 1), 7 + 5 + 4 + 4);
        due("37 two places", x.lineTime(0, 2), 12);
        due("37 three places", x.lineTime(0, 3), 8);
        due("37 four places", x.lineTime(0, 4), 7);
        x.circuit(4, 6, 8, 9, 1, false);
        due("37 two wires of one", x.lineTime(0, 1), 20 + 10);
        due("37 which is laid ahead", x.lineTime(0, 2), 17);
        due("37 rows follow each other", x.lineTime(0, 3), 13);
        thrown("37 choice", ARGUMENT, () -> x.lineTime(1, 1));
        thrown("37 choice below", ARGUMENT, () -> x.lineTime(-1, 1));
        thrown("37 places 0", ARGUMENT, () -> x.lineTime(0, 0));
        thrown("37 places 5", ARGUMENT, () -> x.lineTime(0, 5));
        thrown("37 places below", ARGUMENT, () -> x.lineTime(0, Integer.MIN_VALUE));
    }

    private static void promise38Open() {
        Harnessboard x = Vehicles.withCircuits(9);
        thrown("38 circuit", INDEX, () -> x.open(9));
        thrown("38 circuit below", INDEX, () -> x.open(-1));
        due("38 one", x.open(0), 1);
        thrown("38 is open", UNSUPPORTED, () -> x.open(0));
        due("38 with a short", x.shorted(0, 1), 2);
        for (int i = 1; i < 7; i++) {
            due("38 more", x.open(i), i + 2);
        }
        thrown("38 eight are told", STATE, () -> x.open(7));
        thrown("38 is open first", UNSUPPORTED, () -> x.open(6));
        due("38 nothing was told", x.leads(7), true);
    }

    private static void promise39Shorted() {
        Harnessboard x = Vehicles.withCircuits(3);
        thrown("39 one", INDEX, () -> x.shorted(3, 3));
        thrown("39 one below", INDEX, () -> x.shorted(-1, 0));
        thrown("39 other", INDEX, () -> x.shorted(0, 3));
        thrown("39 other below", INDEX, () -> x.shorted(0, -1));
        thrown("39 the same", ARGUMENT, () -> x.shorted(1, 1));
        for (int i = 1; i <= 7; i++) {
            due("39 also told again", x.shorted(0, 1), i);
        }
        due("39 an open one", x.open(0), 8);
        thrown("39 eight are told", STATE, () -> x.shorted(1, 2));
        thrown("39 the argument first", ARGUMENT, () -> x.shorted(2, 2));
        thrown("39 the index first", INDEX, () -> x.shorted(3, 2));
        due("39 nothing was told", x.touch(1, 2), false);
    }

    private static void promise40Mend() {
        Harnessboard x = Vehicles.withCircuits(3);
        due("40 none", x.mend(), 0);
        x.open(1);
        x.shorted(0, 1);
        x.shorted(0, 1);
        due("40 all", x.mend(), 3);
        due("40 none any more", x.mend(), 0);
        due("40 it leads", x.leads(1), true);
        due("40 they do not touch", x.touch(0, 1), false);
        for (int i = 1; i <= 8; i++) {
            due("40 and eight again", x.shorted(1, 2), i);
        }
        due("40 which are new", x.touch(0, 1), false);
    }

    private static void promise41Leads() {
        Harnessboard x = Vehicles.withCircuits(3);
        x.open(1);
        x.shorted(0, 2);
        due("41 not open", x.leads(0), true);
        due("41 open", x.leads(1), false);
        due("41 a short one leads", x.leads(2), true);
        thrown("41 circuit", INDEX, () -> x.leads(3));
        thrown("41 circuit below", INDEX, () -> x.leads(-1));
    }

    private static void promise42Touch() {
        Harnessboard x = Vehicles.withCircuits(12);
        for (int i = 8; i > 1; i--) {
            x.shorted(i, i - 1);
        }
        x.shorted(9, 11);
        due("42 the same", x.touch(0, 0), true);
        due("42 two that are short", x.touch(3, 4), true);
        due("42 over others", x.touch(1, 8), true);
        due("42 over others, back", x.touch(8, 1), true);
        due("42 not", x.touch(0, 1), false);
        due("42 not the other ones", x.touch(8, 9), false);
        due("42 the last one", x.touch(11, 9), true);
        thrown("42 one", INDEX, () -> x.touch(12, 0));
        thrown("42 one below", INDEX, () -> x.touch(-1, 0));
        thrown("42 other", INDEX, () -> x.touch(0, 12));
        thrown("42 other below", INDEX, () -> x.touch(0, -1));
        Harnessboard y = Vehicles.withCircuits(3);
        y.open(1);
        y.shorted(0, 1);
        y.shorted(1, 2);
        due("42 over an open one", y.touch(0, 2), true);
    }

    private static void promise43Tests() {
        int[] due = {0, 1, 2, 2, 3, 3, 3, 3, 4, 4, 4, 4, 4};
        for (int many = 0; many <= 12; many++) {
            due("43 tests of " + many, Vehicles.withCircuits(many).tests(0), due[many]);
        }
        Harnessboard x = Vehicles.withCircuits(4);
        x.option();
        x.need(0, 1, 0);
        due("43 only what is needed", x.tests(0), 2);
        due("43 by the option", x.tests(1), 3);
        thrown("43 choice", ARGUMENT, () -> x.tests(2));
        thrown("43 choice below", ARGUMENT, () -> x.tests(-1));
    }

    private static void promise44Change() {
        Harnessboard x = Vehicles.withCircuits(2);
        thrown("44 circuit", INDEX, () -> x.change(2, -1, 1));
        thrown("44 circuit below", INDEX, () -> x.change(-1, 0, 1));
        thrown("44 chassis -1", ARGUMENT, () -> x.change(0, -1, 1));
        thrown("44 chassis 10000", ARGUMENT, () -> x.change(0, 10000, 1));
        thrown("44 size 0", ARGUMENT, () -> x.change(0, 0, 0));
        thrown("44 size 10", ARGUMENT, () -> x.change(0, 0, 10));
        due("44 the least", x.change(0, 0, 1), 1);
        due("44 the greatest", x.change(1, 9999, 9), 2);
        for (int i = 3; i <= 8; i++) {
            due("44 change", x.change(0, i, i), i);
        }
        thrown("44 a ninth", STATE, () -> x.change(0, 0, 5));
        thrown("44 the argument first", ARGUMENT, () -> x.change(0, 0, 0));
        thrown("44 the index first", INDEX, () -> x.change(2, 0, 0));
        due("44 nothing was told", x.size(0), 1);
        x.chassis(9999);
        due("44 the greatest of them", x.size(0), 8);
        due("44 of the other circuit", x.size(1), 9);
    }

    private static void promise45Chassis() {
        Harnessboard x = new Harnessboard();
        due("45 at first", x.chassis(9999), 0);
        thrown("45 below", ARGUMENT, () -> x.chassis(-1));
        thrown("45 beyond", ARGUMENT, () -> x.chassis(10000));
        due("45 the greatest", x.chassis(0), 9999);
        due("45 the least", x.chassis(7), 0);
        due("45 any", x.chassis(7), 7);
    }

    private static void promise46Cost() {
        Harnessboard x = Vehicles.row(4, 5);
        x.option();
        x.circuit(0, 2, -1, 3, 1, false);
        x.circuit(0, 1, 3, 2, 1, false);
        x.need(1, 1, 0);
        due("46 size times length", x.cost(0), 30);
        due("46 all wires", x.cost(1), 60);
        x.change(0, 0, 9);
        due("46 at the chassis", x.cost(0), 90);
        x.point();
        x.circuit(0, 4, -1, 9, 1, false);
        due("46 one that cannot be laid", x.cost(0), 90);
        x.rule(0, x.option(), 'f');
        due("46 not buildable", x.cost(1), 120);
        thrown("46 choice", ARGUMENT, () -> x.cost(4));
        thrown("46 choice below", ARGUMENT, () -> x.cost(-1));
    }

    private static void promise47CostOf() {
        Harnessboard x = Vehicles.row(3, 5);
        x.option();
        x.option();
        x.option();
        x.circuit(0, 1, -1, 1, 1, false);
        x.circuit(0, 2, -1, 1, 1, false);
        x.need(0, 1, 0);
        x.need(1, 0, 3);
        due("47 with less without", x.costOf(0), 4 * 5L + 2 * -10L);
        due("47 what it spares", x.costOf(1), 2 * -10L);
        due("47 what it is no matter for", x.costOf(2), 0L);
        x.rule(0, 1, 'x');
        due("47 buildable with it, too", x.costOf(0), 2 * (5L - 10L));
        due("47 the other one", x.costOf(1), 2 * -10L);
        x.rule(2, 1, 'f');
        due("47 buildable without it, too", x.costOf(0), 5L - 10L);
        due("47 one that is forced", x.costOf(1), -10L);
        x.rule(0, 2, 'f');
        due("47 never buildable with it", x.costOf(0), 0L);
        thrown("47 option", INDEX, () -> x.costOf(3));
        thrown("47 option below", INDEX, () -> x.costOf(-1));
        thrown("47 far beyond", INDEX, () -> x.costOf(32));
    }

    private static void promise48Checksum() {
        Harnessboard x = Vehicles.row(2, 7);
        due("48 one choice", x.checksum(), (7L * 31 + 'p') * 31);
        x.option();
        x.option();
        x.rule(0, 1, 'x');
        x.circuit(0, 1, -1, 3, 9, false);
        x.need(0, 1, 0);
        x.limit(20);
        long due = 7;
        char[] letters = {'p', 'd', 'p', 'b'};
        int[] costs = {0, 21, 0, 21};
        for (int i = 0; i < 4; i++) {
            due = 31 * due + letters[i];
            due = 31 * due + costs[i];
        }
        due("48 all choices, by rising bits", x.checksum(), due);
        due("48 again", x.checksum(), due);
    }

    private static void promise49ProvedShare() {
        Harnessboard x = Vehicles.row(2, 7);
        due("49 all", x.provedShare(), 1.0f);
        x.option();
        x.option();
        x.rule(0, 1, 'x');
        x.circuit(0, 1, -1, 3, 9, false);
        x.need(0, 1, 0);
        x.limit(20);
        due("49 two of three", x.provedShare(), 2.0f / 3.0f);
        x.need(0, 0, 0);
        due("49 none", x.provedShare(), 0.0f);
    }

    private static void promise50MeanLength() {
        Harnessboard x = Vehicles.row(4, 5);
        thrown("50 none", ARITHMETIC, x::meanLength);
        x.option();
        x.circuit(0, 2, -1, 3, 1, false);
        x.circuit(0, 1, 3, 2, 1, false);
        x.need(1, 1, 1);
        due("50 needed or not", x.meanLength(), 25.0 / 3.0);
        x.point();
        x.circuit(0, 4, -1, 3, 1, false);
        due("50 one that cannot be laid", x.meanLength(), 25.0 / 3.0);
        Harnessboard y = Vehicles.withPoints(2);
        y.circuit(0, 1, -1, 3, 1, false);
        thrown("50 none can be laid", ARITHMETIC, y::meanLength);
    }

    private static void promise51IsSound() {
        Harnessboard x = seated();
        due("51 seated", x.isSound(), true);
        x.branch(0, 2, 2, false, 3);
        x.branch(0, 2, 1, true, 3);
        due("51 other ways", x.isSound(), true);
        Harnessboard y = Vehicles.withPoints(10);
        for (int i = 0; i < 16; i++) {
            y.branch(i % 10, (i + 1 + 3 * (i / 10)) % 10, 1 + i % 2, i % 3 == 0, 50);
        }
        for (int i = 0; i < 12; i++) {
            y.circuit(i % 10, (i + 1) % 10, (i + 4) % 10, 1 + i % 9, i, i % 2 == 0);
        }
        for (int i = 0; i < 8; i++) {
            y.option();
            y.need(i, 1 << i, 1 << i / 2);
        }
        due("51 a full one", y.isSound(), true);
    }

    public static void main(String[] args) {
        examples();
        promise01NewObject();
        promise02Option();
        promise03Rule();
        promise04IsBuildable();
        promise05Buildable();
        promise06Point();
        promise07Branch();
        promise08Way();
        promise09WayPoint();
        promise10Circuit();
        promise11Need();
        promise12Needs();
        promise13CanBeLaid();
        promise14Splice();
        promise15Wires();
        promise16WireLength();
        promise17GoesThrough();
        promise18Size();
        promise19Drop();
        promise20Limit();
        promise21Width();
        promise22Connector();
        promise23InCavity();
        promise24Plugs();
        promise25Loose();
        promise26Proof();
        promise27Unproved();
        promise28Module();
        promise29Built();
        promise30Order();
        promise31Stock();
        promise32InStock();
        promise33ToCut();
        promise34Cut();
        promise34AllKinds();
        promise35Laid();
        promise36LaidAt();
        promise36Later();
        promise37LineTime();
        promise38Open();
        promise39Shorted();
        promise40Mend();
        promise41Leads();
        promise42Touch();
        promise43Tests();
        promise44Change();
        promise45Chassis();
        promise46Cost();
        promise47CostOf();
        promise48Checksum();
        promise49ProvedShare();
        promise50MeanLength();
        promise51IsSound();
        end();
    }
}
