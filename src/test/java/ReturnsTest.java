import java.math.BigInteger;

/**
 * A test for each sentence that tells what a promise does and returns, at its bounds: of nothing
 * told yet, of as much as can be told, and of one more. What is thrown is tried by RefusedTest.
 */
public final class ReturnsTest extends Sentences {
    private static final boolean[] BOTH = {false, true};

    private static void promise(int number, Runnable test, String... sentences) {
        within(Document.promise(number));
        sentences(test, sentences);
        StringBuilder told = new StringBuilder();
        for (String line : Document.promise(number)) {
            if (line.startsWith("`")) {
                told.append(line.substring(line.indexOf("`: ") + 3)).append('\n');
            } else if (!line.startsWith("- ") && !line.startsWith("Throws ")) {
                told.append(line).append('\n');
            }
        }
        due("promise " + number, String.join("\n", sentences), told.toString().strip());
    }

    private static void nothingOfTheNet() {
        Harnessboard x = new Harnessboard();
        for (int number : new int[] {0, -1, 1, LEAST_INT, GREATEST_INT}) {
            thrown("rule", INDEX, () -> x.rule(number, number, 'x'));
            thrown("costOf", INDEX, () -> x.costOf(number));
            thrown("branch", INDEX, () -> x.branch(number, number, 0, false, 0));
            thrown("way", INDEX, () -> x.way(number, number, false));
            thrown("wayPoint", INDEX, () -> x.wayPoint(number, number, false, 0));
            thrown("circuit", INDEX, () -> x.circuit(number, number, -1, 0, -1, false));
            thrown("connector", INDEX, () -> x.connector(number, 0, 0, false));
            thrown("width", INDEX, () -> x.width(0, number));
            thrown("plugs", INDEX, () -> x.plugs(0, number));
            thrown("inCavity", INDEX, () -> x.inCavity(0, number, 0));
            if (number != 0) {
                thrown("isBuildable", ARGUMENT, () -> x.isBuildable(number));
                thrown("proof", ARGUMENT, () -> x.proof(number));
            }
        }
    }

    private static void nothingOfCircuits() {
        Harnessboard x = new Harnessboard();
        for (int number : new int[] {0, -1, 1, LEAST_INT, GREATEST_INT}) {
            thrown("need", INDEX, () -> x.need(number, 0, 0));
            thrown("needs", INDEX, () -> x.needs(0, number));
            thrown("canBeLaid", INDEX, () -> x.canBeLaid(number));
            thrown("splice", INDEX, () -> x.splice(number));
            thrown("wires", INDEX, () -> x.wires(number));
            thrown("wireLength", INDEX, () -> x.wireLength(number, 0));
            thrown("goesThrough", INDEX, () -> x.goesThrough(number, 0));
            thrown("size", INDEX, () -> x.size(number));
            thrown("drop", INDEX, () -> x.drop(number, 1));
            thrown("open", INDEX, () -> x.open(number));
            thrown("shorted", INDEX, () -> x.shorted(number, number));
            thrown("leads", INDEX, () -> x.leads(number));
            thrown("touch", INDEX, () -> x.touch(number, number));
            thrown("change", INDEX, () -> x.change(number, 0, 1));
            thrown("module", ARGUMENT, () -> x.module(number));
        }
    }

    private static void nothingToldYet() {
        Harnessboard x = new Harnessboard();
        due("isBuildable", x.isBuildable(0), true);
        due("buildable", x.buildable(), 1);
        due("loose", x.loose(0), 0);
        due("proof", x.proof(0), 'p');
        thrown("unproved", ELEMENT, x::unproved);
        due("built", x.built(0), 0);
        due("inStock", x.inStock(1, 3), 0);
        due("toCut", x.toCut(), 0);
        thrown("cut", STATE, x::cut);
        due("laid", x.laid(0), 0);
        thrown("laidAt", ELEMENT, () -> x.laidAt(0, 0));
        due("lineTime", x.lineTime(0, 4), 0);
        due("mend", x.mend(), 0);
        due("tests", x.tests(0), 0);
        due("cost", x.cost(0), 0);
        due("checksum", x.checksum(), (7L * 31 + 112) * 31);
        due("provedShare", x.provedShare(), 1.0f);
        thrown("meanLength", ARITHMETIC, x::meanLength);
        due("isSound", x.isSound(), true);
        due("limit", x.limit(0), 9999);
        due("chassis", x.chassis(9999), 0);
        due("order", x.order(0), 1);
        due("cut", x.cut(), 0);
        due("stock", x.stock(9, 999, 20), 20);
        due("option", x.option(), 0);
        due("point", x.point(), 0);
    }

    private static void newObject() {
        nothingOfTheNet();
        nothingOfCircuits();
        nothingToldYet();
    }

    private static void option() {
        Harnessboard x = new Harnessboard();
        for (int i = 0; i < 8; i++) {
            due("choices ahead", x.buildable(), 1 << i);
            due("option", x.option(), i);
        }
        thrown("one more", STATE, x::option);
        thrown("and again", STATE, x::option);
        due("choices of eight", x.buildable(), 256);
    }

    private static void rule() {
        Harnessboard x = Vehicles.withOptions(8);
        for (int i = 1; i <= 12; i++) {
            thrown("which is none", ARGUMENT, () -> x.rule(0, 0, 'x'));
            due("rule", x.rule(i % 8, (i + 1) % 8, i % 2 == 0 ? 'x' : 'f'), i);
        }
        thrown("one more", STATE, () -> x.rule(0, 1, 'x'));
        Harnessboard two = Vehicles.withOptions(2);
        due("the last with the first", two.rule(1, 0, 'f'), 1);
        due("holds", two.isBuildable(2), false);
        due("is not one of the first with the last", two.isBuildable(1), true);
    }

    private static void isBuildable() {
        for (int options = 0; options <= 8; options++) {
            Harnessboard x = Vehicles.withOptions(options);
            int all = (1 << options) - 1;
            due("the empty one", x.isBuildable(0), true);
            due("the full one", x.isBuildable(all), true);
            thrown("one beyond", ARGUMENT, () -> x.isBuildable(all + 1));
            thrown("one beyond and all", ARGUMENT, () -> x.isBuildable(2 * all + 1 + 1));
            thrown("-1", ARGUMENT, () -> x.isBuildable(-1));
            thrown("the least int", ARGUMENT, () -> x.isBuildable(LEAST_INT));
            thrown("the greatest int", ARGUMENT, () -> x.isBuildable(GREATEST_INT));
            if (options > 1) {
                x.rule(0, options - 1, 'x');
                due("the full one, with a rule", x.isBuildable(all), false);
                due("the empty one, with a rule", x.isBuildable(0), true);
            }
        }
    }

    private static void buildable() {
        Harnessboard x = Vehicles.withOptions(8);
        due("all", x.buildable(), 256);
        x.rule(0, 7, 'x');
        due("less those with both", x.buildable(), 192);
        x.rule(7, 0, 'f');
        due("less all with the last", x.buildable(), 128);
        for (int i = 0; i < 7; i++) {
            x.rule(i, i + 1, 'f');
        }
        due("the empty one is left", x.buildable(), 1);
    }

    private static void point() {
        Harnessboard x = new Harnessboard();
        for (int i = 0; i < 10; i++) {
            due("point", x.point(), i);
            due("its way to itself", x.way(i, i, true), 0);
        }
        thrown("one more", STATE, x::point);
        due("the last is one", x.connector(9, 1, 1, true), 0);
        thrown("one more is none", INDEX, () -> x.connector(10, 1, 1, true));
    }

    private static void branch() {
        Harnessboard x = Vehicles.withPoints(10);
        for (int i = 0; i < 16; i++) {
            due("branch", x.branch(9 - i % 9, i % 9, 50, i % 2 == 0, 99), i);
        }
        thrown("one more", STATE, () -> x.branch(0, 9, 1, false, 99));
        due("the last is one", x.width(0, 15), 0);
        thrown("one more is none", INDEX, () -> x.width(0, 16));
    }

    private static void way() {
        Harnessboard x = Vehicles.withPoints(10);
        for (int i = 0; i < 10; i++) {
            int to = i;
            due("the same point", x.way(i, i, i % 2 == 0), 0);
            if (i > 0) {
                thrown("no way", ELEMENT, () -> x.way(0, to, false));
            }
        }
        for (int i = 1; i < 10; i++) {
            x.branch(i, i - 1, 99, i % 2 == 0, 1);
        }
        due("the longest", x.way(0, 9, false), 891);
        due("the same point still", x.way(9, 9, false), 0);
        due("the shortest dry", x.way(0, 1, true), 99);
        thrown("not dry", ELEMENT, () -> x.way(1, 2, true));
        x.branch(9, 0, 1, true, 1);
        due("the shortest", x.way(0, 9, false), 1);
        due("the longest now", x.way(0, 5, false), 1 + 4 * 99);
        due("the other way round", x.way(5, 0, false), 1 + 4 * 99);
    }

    private static void wayPoint() {
        Harnessboard x = Vehicles.row(10, 1);
        for (int i = 0; i < 10; i++) {
            due("by index " + i, x.wayPoint(0, 9, false, i), i);
            due("back by index " + i, x.wayPoint(9, 0, true, i), 9 - i);
            due("the first point " + i, x.wayPoint(i, 9, false, 0), i);
            due("the last point " + i, x.wayPoint(0, i, false, i), i);
            int last = i;
            thrown("behind it " + i, ELEMENT, () -> x.wayPoint(0, last, false, last + 1));
            thrown("a second one of the same " + i, ELEMENT, () -> x.wayPoint(last, last, false, 1));
        }
        for (int outside : new int[] {-1, 10, LEAST_INT, GREATEST_INT}) {
            thrown("by index " + outside, ELEMENT, () -> x.wayPoint(0, 9, false, outside));
        }
        thrown("no such point", INDEX, () -> x.wayPoint(0, 10, false, 0));
    }

    private static void circuit() {
        Harnessboard x = Vehicles.withPoints(10);
        for (int i = 0; i < 12; i++) {
            due("circuit", x.circuit(i % 10, (i + 1) % 10, i % 2 == 0 ? -1 : (i + 2) % 10, 9, 99, false), i);
        }
        thrown("one more", STATE, () -> x.circuit(0, 1, -1, 1, 0, false));
        thrown("one more is none", INDEX, () -> x.wires(12));
        Harnessboard few = Vehicles.withPoints(2);
        thrown("no third point", INDEX, () -> few.circuit(0, 1, 2, 1, 0, false));
        due("none is no end", few.circuit(1, 0, -1, 1, 0, true), 0);
    }

    private static void need() {
        Harnessboard x = Vehicles.withCircuits(12);
        due("of no options", x.need(11, 0, 0), 0);
        thrown("an option of none", ARGUMENT, () -> x.need(11, 1, 0));
        for (int i = 0; i < 8; i++) {
            x.option();
        }
        due("at first all do: none", x.needs(0, 0), true);
        due("at first all do: all", x.needs(255, 0), true);
        due("at first", x.need(0, 255, 1), 0);
        due("the first set, not the second", x.need(0, 1, 255), 255);
        due("again", x.need(0, 0, 0), 1);
        for (int outside : new int[] {256, -1, LEAST_INT, GREATEST_INT}) {
            thrown("all of " + outside, ARGUMENT, () -> x.need(0, outside, 0));
            thrown("none of " + outside, ARGUMENT, () -> x.need(0, 0, outside));
        }
        due("all do again", x.needs(255, 0), true);
        due("which was told", x.need(0, 0, 0), 0);
    }

    private static void needs() {
        Harnessboard x = Vehicles.withCircuits(12);
        for (int i = 0; i < 8; i++) {
            x.option();
        }
        x.need(11, 255, 0);
        due("all", x.needs(255, 11), true);
        due("all but the first", x.needs(254, 11), false);
        due("all but the last", x.needs(127, 11), false);
        x.need(11, 0, 255);
        due("none", x.needs(0, 11), true);
        due("the first", x.needs(1, 11), false);
        due("the last", x.needs(128, 11), false);
        x.rule(0, 1, 'x');
        due("a choice that is not buildable", x.needs(3, 0), true);
        thrown("one beyond", INDEX, () -> x.needs(0, 12));
        thrown("a choice beyond", ARGUMENT, () -> x.needs(256, 11));
    }

    private static void canBeLaid() {
        Harnessboard x = Vehicles.withPoints(10);
        for (int i = 0; i < 12; i++) {
            x.circuit(0, 9, i % 2 == 0 ? -1 : 4, 1, 1, i >= 6);
            due("without branches " + i, x.canBeLaid(i), false);
        }
        for (int i = 1; i < 10; i++) {
            due("before the last branch", x.canBeLaid(11), false);
            x.branch(i - 1, i, 99, i == 9, 1);
        }
        for (int i = 0; i < 12; i++) {
            due("with the last one wet " + i, x.canBeLaid(i), i < 6);
        }
        x.branch(9, 8, 99, false, 1);
        for (int i = 0; i < 12; i++) {
            due("with a dry one " + i, x.canBeLaid(i), true);
        }
        Harnessboard told = Vehicles.row(2, 1);
        told.circuit(1, 0, -1, 1, 1, true);
        due("branches told ahead", told.canBeLaid(0), true);
    }

    private static void splice() {
        Harnessboard x = Vehicles.row(10, 1);
        x.circuit(0, 1, 9, 1, 1, false);
        due("in between", x.splice(0), 1);
        x.circuit(9, 8, 7, 1, 1, false);
        due("at the end of all", x.splice(1), 8);
        x.circuit(0, 9, -1, 1, 1, false);
        thrown("of two ends", ELEMENT, () -> x.splice(2));
        x.branch(0, 9, 1, true, 1);
        x.circuit(1, 0, 9, 1, 1, false);
        due("the lowest point", x.splice(3), 0);
        x.circuit(8, 9, 0, 1, 1, false);
        due("the greatest point", x.splice(4), 9);
        due("which the first circuit does without", x.splice(0), 0);
    }

    private static void wires() {
        Harnessboard x = Vehicles.withPoints(4);
        x.circuit(1, 2, -1, 1, 1, false);
        x.circuit(1, 2, 3, 1, 1, false);
        x.circuit(1, 0, 3, 1, 1, false);
        for (int i = 0; i < 3; i++) {
            due("cannot be laid " + i, x.wires(i), 0);
        }
        for (int i = 1; i < 4; i++) {
            x.branch(0, i, 1, false, 99);
        }
        due("two ends", x.wires(0), 1);
        due("three ends", x.wires(1), 3);
        due("three ends, one is the splice", x.wires(2), 2);
    }

    private static void wireLength() {
        Harnessboard x = Vehicles.row(10, 99);
        x.circuit(9, 0, -1, 1, 1, false);
        x.circuit(4, 0, 9, 1, 1, false);
        due("the longest", x.wireLength(0, 0), 891);
        due("of the second end, as the first is the splice", x.wireLength(1, 0), 396);
        due("of the third end", x.wireLength(1, 1), 495);
        for (int outside : new int[] {-1, 1, 2, 3, LEAST_INT, GREATEST_INT}) {
            thrown("of two ends, wire " + outside, ELEMENT, () -> x.wireLength(0, outside));
            if (outside != 1) {
                thrown("of three ends, wire " + outside, ELEMENT, () -> x.wireLength(1, outside));
            }
        }
        x.branch(9, 0, 1, false, 99);
        due("the shortest", x.wireLength(0, 0), 1);
    }

    private static void goesThrough() {
        Harnessboard x = Vehicles.withPoints(2);
        x.circuit(0, 1, -1, 1, 1, false);
        for (int i = 0; i < 15; i++) {
            x.branch(i % 2, 1 - i % 2, 50, false, 1);
            due("the first of so many", x.goesThrough(0, 0), true);
            due("not the last of them", x.goesThrough(0, i), i == 0);
        }
        x.branch(0, 1, 49, false, 1);
        for (int i = 0; i < 16; i++) {
            due("the sixteenth is shorter " + i, x.goesThrough(0, i), i == 15);
        }
        for (int outside : new int[] {-1, 16, LEAST_INT, GREATEST_INT}) {
            thrown("branch " + outside, INDEX, () -> x.goesThrough(0, outside));
        }
        Harnessboard apart = Vehicles.withPoints(3);
        apart.branch(0, 1, 1, false, 1);
        apart.circuit(0, 1, 2, 1, 1, false);
        due("one that cannot be laid", apart.goesThrough(0, 0), false);
    }

    private static void size() {
        Harnessboard x = Vehicles.withPoints(2);
        for (int i = 1; i <= 9; i++) {
            x.circuit(0, 1, -1, i, 1, false);
            due("its own", x.size(i - 1), i);
        }
        x.change(0, 9999, 9);
        x.change(8, 0, 1);
        due("from 9999 on, at 0", x.size(0), 1);
        due("from 0 on, at 0", x.size(8), 1);
        x.chassis(9998);
        due("from 9999 on, at 9998", x.size(0), 1);
        x.chassis(9999);
        due("from 9999 on, at 9999", x.size(0), 9);
    }

    private static void drop() {
        Harnessboard x = Vehicles.row(3, 5);
        x.circuit(0, 1, 2, 9, 99, false);
        x.circuit(2, 0, -1, 1, 0, true);
        due("at the second end", x.drop(0, 1), 55);
        due("at the third end", x.drop(0, 2), 110);
        due("without amperes", x.drop(1, 1), 0);
        thrown("at a third end that is none", ELEMENT, () -> x.drop(1, 2));
        x.change(0, 0, 8);
        due("cut", x.drop(0, 1), 61);
        due("cut by less than one", x.drop(0, 2), 123);
    }

    private static void limit() {
        Harnessboard x = new Harnessboard();
        int before = 9999;
        for (int limit : new int[] {9999, 0, 1, 9998, 9999}) {
            due("the one before " + limit, x.limit(limit), before);
            before = limit;
            for (int outside : new int[] {-1, 10000, LEAST_INT, GREATEST_INT}) {
                thrown("limit " + outside, ARGUMENT, () -> x.limit(outside));
            }
        }
    }

    private static void width() {
        Harnessboard x = Vehicles.withPoints(2);
        for (int i = 0; i < 16; i++) {
            x.branch(0, 1, i < 15 ? 2 : 1, false, 1);
        }
        for (int i = 0; i < 12; i++) {
            x.circuit(1, 0, -1, 9, 1, true);
        }
        for (int i = 0; i < 16; i++) {
            due("of branch " + i, x.width(0, i), i < 15 ? 0 : 108);
        }
        thrown("of one more", INDEX, () -> x.width(0, 16));
        thrown("of one more, by no choice", INDEX, () -> x.width(1, 16));
    }

    private static void connector() {
        Harnessboard x = Vehicles.withPoints(10);
        for (int i = 0; i < 6; i++) {
            due("connector", x.connector(9 - i, 1 + i, 9 - i, i % 2 == 0), i);
        }
        thrown("one more", STATE, () -> x.connector(0, 1, 1, true));
        due("the last is one", x.plugs(0, 5), 0);
        thrown("one more is none", INDEX, () -> x.plugs(0, 6));
    }

    private static void inCavity() {
        Harnessboard x = Vehicles.withPoints(10);
        for (int i = 0; i < 6; i++) {
            x.connector(9, i < 5 ? 1 : 9, 9, true);
        }
        for (int i = 0; i < 12; i++) {
            x.circuit(9, i % 9, -1, 9, 1, false);
        }
        for (int i = 0; i < 5; i++) {
            due("one in each " + i, x.inCavity(0, i, 0), i);
        }
        for (int i = 0; i < 7; i++) {
            due("the others in the last " + i, x.inCavity(0, 5, i), i + 5);
        }
        thrown("which has two free ones", ELEMENT, () -> x.inCavity(0, 5, 7));
        thrown("the last cavity", ELEMENT, () -> x.inCavity(0, 5, 8));
        thrown("one more cavity", INDEX, () -> x.inCavity(0, 5, 9));
        thrown("one more connector", INDEX, () -> x.inCavity(0, 6, 0));
    }

    private static void plugs() {
        for (int cavities : new int[] {1, 9}) {
            for (boolean isSealed : BOTH) {
                Harnessboard x = Vehicles.withPoints(2);
                x.connector(1, cavities, 1, isSealed);
                due("all are free", x.plugs(0, 0), isSealed ? cavities : 0);
                x.circuit(0, 1, -1, 2, 1, true);
                due("one that is too great", x.plugs(0, 0), isSealed ? cavities : 0);
                x.circuit(0, 1, -1, 1, 1, true);
                due("one is taken", x.plugs(0, 0), isSealed ? cavities - 1 : 0);
            }
        }
    }

    private static void loose() {
        Harnessboard x = Vehicles.withPoints(3);
        x.connector(0, 9, 1, true);
        x.connector(1, 9, 1, true);
        x.connector(2, 9, 1, true);
        x.circuit(0, 1, 2, 1, 1, false);
        due("none", x.loose(0), 0);
        x.circuit(0, 1, 2, 2, 1, false);
        due("each end counted", x.loose(0), 3);
        x.circuit(0, 1, -1, 2, 1, true);
        due("both ends of another one", x.loose(0), 5);
    }

    private static void proof() {
        Harnessboard x = Vehicles.row(3, 9);
        x.option();
        x.option();
        x.rule(0, 1, 'x');
        due("'p' without circuits", x.proof(0), 'p');
        x.circuit(0, 1, -1, 9, 9, false);
        due("'p' with a circuit", x.proof(0), 'p');
        due("'b' with two options", x.proof(3), 'b');
        x.limit(8);
        due("'d'", x.proof(0), 'd');
        x.connector(0, 1, 8, true);
        due("'l'", x.proof(1), 'l');
        x.branch(0, 1, 1, true, 8);
        due("'w'", x.proof(2), 'w');
        x.point();
        x.circuit(3, 0, -1, 1, 1, false);
        due("'n'", x.proof(0), 'n');
        due("'b' still", x.proof(3), 'b');
    }

    private static void unproved() {
        Harnessboard x = Vehicles.withCircuits(1);
        due("the only choice", x.unproved(), 0);
        for (int i = 0; i < 8; i++) {
            x.option();
        }
        due("the first of all", x.unproved(), 0);
        x.need(0, 255, 0);
        due("the last of all", x.unproved(), 255);
        x.need(0, 127, 0);
        due("the first of two", x.unproved(), 127);
        x.rule(0, 7, 'f');
        due("the first of them is not buildable", x.unproved(), 255);
        x.rule(7, 1, 'x');
        thrown("none of them is", ELEMENT, x::unproved);
        x.need(0, 0, 0);
        due("any", x.unproved(), 0);
        x.branch(0, 1, 1, false, 1);
        thrown("all are proved", ELEMENT, x::unproved);
    }

    private static void module() {
        Harnessboard x = Vehicles.withCircuits(12);
        for (int i = 0; i < 6; i++) {
            due("module", x.module(i == 0 ? 1 : i == 5 ? 4095 : 2048), i);
        }
        thrown("one more", STATE, () -> x.module(1));
        due("the last is one", x.built(0), 32);
    }

    private static void built() {
        Harnessboard x = Vehicles.withCircuits(6);
        due("nothing to build of none", new Harnessboard().built(0), 0);
        thrown("without modules", ELEMENT, () -> x.built(0));
        for (int i = 0; i < 6; i++) {
            thrown("of too few", ELEMENT, () -> x.built(0));
            x.module(1 << i);
        }
        due("of all", x.built(0), 63);
        x.option();
        for (int i = 0; i < 6; i++) {
            x.need(i, i < 5 ? 1 : 0, 0);
        }
        due("of the last", x.built(0), 32);
        due("of all by the option", x.built(1), 63);
        x.need(5, 1, 0);
        due("of none", x.built(0), 0);
    }

    private static void order() {
        Harnessboard x = Vehicles.withOptions(8);
        x.rule(0, 1, 'x');
        for (int i = 1; i <= 10; i++) {
            thrown("one that is not buildable", UNSUPPORTED, () -> x.order(3));
            thrown("one beyond", ARGUMENT, () -> x.order(256));
            due("order", x.order(i == 1 ? 0 : 254), i);
        }
        thrown("one more", STATE, () -> x.order(0));
        thrown("one more that is not buildable", UNSUPPORTED, () -> x.order(255));
        due("no wires at all", x.cut(), 0);
        due("then again", x.order(253), 1);
    }

    private static void stock() {
        Harnessboard x = new Harnessboard();
        int due = 0;
        for (int many : new int[] {1, 20, 19, 2, 20, 20}) {
            due += many;
            due("of the least kind", x.stock(1, 3, many), due);
            due("of the greatest kind", x.stock(9, 999, many), due);
        }
        for (int outside : new int[] {0, 21, -1, LEAST_INT, GREATEST_INT}) {
            thrown("so many " + outside, ARGUMENT, () -> x.stock(1, 3, outside));
        }
        due("as before", x.inStock(1, 3), due);
    }

    private static void inStock() {
        Harnessboard x = Vehicles.row(2, 1);
        x.circuit(0, 1, -1, 1, 1, false);
        due("none", x.inStock(1, 3), 0);
        x.stock(1, 3, 2);
        due("two", x.inStock(1, 3), 2);
        for (int left = 1; left >= 0; left--) {
            x.order(0);
            x.cut();
            due("one less", x.inStock(1, 3), left);
        }
        x.order(0);
        due("one is cut", x.cut(), 6);
        due("never less than none", x.inStock(1, 3), 0);
        due("again", x.stock(1, 3, 1), 1);
    }

    private static Harnessboard allWires() {
        Harnessboard x = Vehicles.withPoints(4);
        for (int i = 1; i < 4; i++) {
            x.branch(0, i, i, false, 99);
        }
        for (int i = 0; i < 12; i++) {
            x.circuit(1, 2, 3, 1 + i % 9, 1, false);
        }
        return x;
    }

    private static void toCut() {
        Harnessboard x = allWires();
        for (int i = 0; i <= 10; i++) {
            due("of orders " + i, x.toCut(), 36 * i);
            if (i < 10) {
                x.order(0);
            }
        }
        x.stock(1, 5, 19);
        due("less those in stock", x.toCut(), 341);
        x.stock(1, 5, 1);
        due("less all that are needed", x.toCut(), 340);
        x.stock(1, 5, 1);
        due("and no more", x.toCut(), 340);
        due("which stay there", x.inStock(1, 5), 21);
    }

    private static void cut() {
        Harnessboard x = allWires();
        for (int i = 0; i < 10; i++) {
            x.order(0);
        }
        due("nine sizes of three lengths", x.cut(), 9 * 5 + 9 * 2 + 360);
        x.order(0);
        due("once more", x.cut(), 9 * 5 + 9 * 2 + 36);
        Harnessboard y = Vehicles.row(2, 1);
        y.order(0);
        due("no wires", y.cut(), 0);
        y.circuit(0, 1, -1, 1, 1, false);
        y.order(0);
        due("one wire", y.cut(), 6);
    }

    private static void laid() {
        Harnessboard x = Vehicles.row(2, 1);
        for (int i = 0; i < 12; i++) {
            due("of so many", x.laid(0), i);
            x.circuit(0, 1, -1, 1, 1, false);
        }
        due("all", x.laid(0), 12);
        due("none of those that cannot be laid", Vehicles.withCircuits(12).laid(0), 0);
    }

    private static void laidAt() {
        Harnessboard x = Vehicles.row(2, 1);
        for (int i = 0; i < 12; i++) {
            x.circuit(0, 1, -1, 1 + i * 8 / 11, 1, false);
        }
        int[] row = {11, 10, 9, 7, 8, 6, 5, 3, 4, 2, 0, 1};
        for (int i = 0; i < 12; i++) {
            due("by size, then by number " + i, x.laidAt(0, i), row[i]);
        }
        for (int outside : new int[] {-1, 12, LEAST_INT, GREATEST_INT}) {
            thrown("place " + outside, ELEMENT, () -> x.laidAt(0, outside));
            thrown("on an empty board", ELEMENT, () -> Vehicles.withCircuits(1).laidAt(0, outside));
        }
        thrown("the first one of an empty board", ELEMENT, () -> Vehicles.withCircuits(1).laidAt(0, 0));
    }

    private static void lineTime() {
        Harnessboard x = Vehicles.row(10, 99);
        for (int i = 0; i < 12; i++) {
            x.circuit(0, 9, -1, 1, 1, false);
        }
        due("one place", x.lineTime(0, 1), 12 * 894);
        due("two places", x.lineTime(0, 2), 6 * 894);
        due("three places", x.lineTime(0, 3), 4 * 894);
        due("four places", x.lineTime(0, 4), 3 * 894);
        thrown("no place", ARGUMENT, () -> x.lineTime(0, 0));
        thrown("five places", ARGUMENT, () -> x.lineTime(0, 5));
    }

    private static void open() {
        Harnessboard x = Vehicles.withCircuits(12);
        for (int i = 1; i <= 8; i++) {
            due("open", x.open(i + 3), i);
            int told = i + 3;
            thrown("again", UNSUPPORTED, () -> x.open(told));
        }
        thrown("one more", STATE, () -> x.open(0));
        thrown("no circuit", INDEX, () -> x.open(12));
    }

    private static void shorted() {
        Harnessboard x = Vehicles.withCircuits(12);
        x.open(11);
        for (int i = 2; i <= 8; i++) {
            due("short", x.shorted(11, i % 3), i);
            thrown("with itself", ARGUMENT, () -> x.shorted(11, 11));
        }
        thrown("one more", STATE, () -> x.shorted(0, 1));
        thrown("no circuit", INDEX, () -> x.shorted(11, 12));
    }

    private static void mend() {
        Harnessboard x = Vehicles.withCircuits(12);
        for (int many = 0; many <= 8; many++) {
            for (int i = 0; i < many; i++) {
                due("fault", i % 2 == 0 ? x.open(i) : x.shorted(i, 11), i + 1);
            }
            due("all of them", x.mend(), many);
            due("none", x.mend(), 0);
            due("the first leads", x.leads(0), true);
            due("the second does not touch", x.touch(1, 11), false);
        }
    }

    private static void leads() {
        Harnessboard x = Vehicles.withCircuits(12);
        x.open(0);
        for (int i = 0; i < 12; i++) {
            due("all but the first " + i, x.leads(i), i > 0);
        }
        thrown("one more", INDEX, () -> x.leads(12));
    }

    private static void touch() {
        Harnessboard x = Vehicles.withCircuits(12);
        x.shorted(11, 0);
        for (int i = 0; i < 12; i++) {
            due("the same", x.touch(i, i), true);
            due("the first " + i, x.touch(i, 0), i == 0 || i == 11);
        }
        thrown("one more", INDEX, () -> x.touch(0, 12));
        thrown("one more, the same", INDEX, () -> x.touch(12, 12));
    }

    private static void tests() {
        int[] due = {0, 1, 2, 2, 3, 3, 3, 3, 4, 4, 4, 4, 4};
        Harnessboard x = Vehicles.withCircuits(12);
        x.option();
        for (int i = 11; i >= 0; i--) {
            x.need(i, 1, 0);
            due("of so many " + i, x.tests(0), due[i]);
            due("of all", x.tests(1), 4);
        }
    }

    private static void change() {
        Harnessboard x = Vehicles.withCircuits(12);
        for (int i = 1; i <= 8; i++) {
            due("change", x.change(11, i % 2 == 0 ? 0 : 9999, i), i);
        }
        thrown("one more", STATE, () -> x.change(0, 0, 9));
        due("of like ones the last", x.size(11), 8);
        x.chassis(9999);
        due("of the others the last", x.size(11), 7);
    }

    private static void chassis() {
        Harnessboard x = new Harnessboard();
        int before = 0;
        for (int chassis : new int[] {0, 9999, 1, 9998, 0}) {
            due("the one before " + chassis, x.chassis(chassis), before);
            before = chassis;
            for (int outside : new int[] {-1, 10000, LEAST_INT, GREATEST_INT}) {
                thrown("chassis " + outside, ARGUMENT, () -> x.chassis(outside));
            }
        }
    }

    private static void cost() {
        Harnessboard x = allWires();
        int sizes = 45 + 1 + 2 + 3;
        due("all wires", x.cost(0), sizes * 6);
        thrown("a choice beyond", ARGUMENT, () -> x.cost(1));
        due("none", Vehicles.withCircuits(12).cost(0), 0);
    }

    private static void costOf() {
        Harnessboard x = Vehicles.row(2, 1);
        x.option();
        due("nothing", x.costOf(0), 0L);
        x.circuit(0, 1, -1, 1, 1, false);
        due("no matter", x.costOf(0), 0L);
        x.need(0, 1, 0);
        due("one more", x.costOf(0), 1L);
        x.need(0, 0, 1);
        due("one less", x.costOf(0), -1L);
        x.option();
        due("twice", x.costOf(0), -2L);
        due("the new one", x.costOf(1), 0L);
    }

    /** So many choices that the sum wraps around. */
    private static void checksum() {
        Harnessboard x = Vehicles.row(2, 99);
        BigInteger due = BigInteger.valueOf(7);
        BigInteger times = BigInteger.valueOf(31);
        for (int i = 0; i < 8; i++) {
            x.option();
            x.circuit(0, 1, -1, i + 1, 99, false);
            x.need(i, 1 << i, 0);
        }
        x.rule(7, 6, 'x');
        x.limit(5000);
        for (int choice = 0; choice < 256; choice++) {
            int sizes = 0;
            for (int i = 0; i < 8; i++) {
                sizes += (choice >> i & 1) * (i + 1);
            }
            char proof = choice >= 192 ? 'b' : (choice & 1) == 1 ? 'd' : 'p';
            due = due.multiply(times).add(BigInteger.valueOf(proof));
            due = due.multiply(times).add(BigInteger.valueOf(99L * sizes));
        }
        require(due.bitLength() > 64, "the sum wraps around");
        due("of 256 choices", x.checksum(), due.longValue());
        due("again", x.checksum(), due.longValue());
        due("of one choice", Vehicles.withPoints(10).checksum(), (7L * 31 + 'p') * 31);
    }

    private static void provedShare() {
        Harnessboard x = Vehicles.withCircuits(8);
        due("none of one", x.provedShare(), 0.0f);
        for (int i = 0; i < 8; i++) {
            x.option();
        }
        due("none of all", x.provedShare(), 0.0f);
        for (int i = 0; i < 8; i++) {
            x.need(i, 1 << i, 0);
        }
        due("one of all", x.provedShare(), 1.0f / 256.0f);
        x.rule(0, 1, 'x');
        x.rule(1, 0, 'x');
        due("one of less", x.provedShare(), 1.0f / 192.0f);
        x.need(2, 0, 0);
        due("none of less", x.provedShare(), 0.0f);
        x.branch(1, 0, 1, false, 99);
        due("all", x.provedShare(), 1.0f);
        Harnessboard y = Vehicles.withOptions(8);
        for (int i = 0; i < 8; i++) {
            y.rule(i, (i + 1) % 8, 'f');
        }
        y.rule(0, 1, 'x');
        due("the choice without options is always buildable", y.provedShare(), 1.0f);
    }

    private static void meanLength() {
        Harnessboard x = Vehicles.row(10, 99);
        thrown("no circuit", ARITHMETIC, x::meanLength);
        x.circuit(0, 9, -1, 9, 1, false);
        due("the longest", x.meanLength(), 891.0);
        x.circuit(0, 1, 9, 9, 1, false);
        due("three wires", x.meanLength(), 1782.0 / 3.0);
        x.circuit(4, 3, -1, 9, 1, false);
        x.circuit(4, 5, -1, 9, 1, false);
        x.circuit(4, 6, -1, 9, 1, false);
        x.circuit(4, 7, -1, 9, 1, false);
        due("no whole number", x.meanLength(), 2475.0 / 7.0);
        Harnessboard y = Vehicles.withPoints(3);
        y.circuit(0, 1, -1, 1, 1, true);
        y.branch(0, 1, 1, true, 1);
        thrown("none can be laid", ARITHMETIC, y::meanLength);
        y.circuit(0, 1, -1, 1, 1, false);
        due("the shortest", y.meanLength(), 1.0);
    }

    private static void isSound() {
        for (Base base : Base.all()) {
            due(base.name, base.made().isSound(), true);
        }
        Harnessboard x = Vehicles.withPoints(10);
        for (int i = 0; i < 16; i++) {
            due("with branches " + i, x.isSound(), true);
            x.branch(i % 10, (i + 1 + 2 * (i / 10)) % 10, 1, i % 7 == 6, 99);
        }
        for (int i = 0; i < 12; i++) {
            x.circuit(i % 10, (i + 4) % 10, (i + 7) % 10, 1 + i % 9, 99, i % 5 == 4);
            due("with circuits " + i, x.isSound(), true);
        }
        for (int i = 0; i < 6; i++) {
            x.connector(i, 9, 9, true);
            due("with connectors " + i, x.isSound(), true);
        }
        for (int i = 0; i < 8; i++) {
            x.option();
            due("with options " + i, x.isSound(), true);
        }
    }

    private static void tryOptionsAndNet() {
        promise(1, ReturnsTest::newObject, "Creates a vehicle without options, points and circuits.");
        promise(2, ReturnsTest::option, "Adds an option.", "Returns its number.");
        promise(3, ReturnsTest::rule, "Adds a rule.", "Returns how many rules there are.");
        promise(4, ReturnsTest::isBuildable, "Returns whether a choice is buildable.", "Returns whether it is.");
        promise(5, ReturnsTest::buildable, "Returns how many choices are buildable.", "Returns how many.");
        promise(6, ReturnsTest::point, "Adds a point.", "Returns its number.");
        promise(7, ReturnsTest::branch, "Adds a branch.", "Returns its number.");
        promise(8, ReturnsTest::way, "Returns the sum of lengths of the least way.",
                "Returns the sum, 0 for the same point.");
        promise(9, ReturnsTest::wayPoint, "Returns a point of the least way.", "Returns the point.");
    }

    private static void tryCircuits() {
        promise(10, ReturnsTest::circuit, "Adds a circuit.", "Returns its number.");
        promise(11, ReturnsTest::need, "Tells which choices need a circuit; at first all do.",
                "Returns the first set before.");
        promise(12, ReturnsTest::needs, "Returns whether a choice needs a circuit.", "Returns whether it does.");
        promise(13, ReturnsTest::canBeLaid, "Returns whether a circuit can be laid.", "Returns whether it can.");
        promise(14, ReturnsTest::splice, "Returns the splice of a circuit.", "Returns the point.");
        promise(15, ReturnsTest::wires, "Returns how many wires a circuit has.",
                "Returns how many, 0 if it cannot be laid.");
        promise(16, ReturnsTest::wireLength, "Returns the sum of lengths of a wire.", "Returns the sum.");
        promise(17, ReturnsTest::goesThrough, "Returns whether a wire of a circuit goes through a branch.",
                "Returns whether one does.");
        promise(18, ReturnsTest::size, "Returns the size of a circuit, at the chassis that is told.",
                "Returns the size.");
        promise(19, ReturnsTest::drop, "Returns a drop of a circuit.", "Returns the drop.");
        promise(20, ReturnsTest::limit, "Sets the limit of drops.", "Returns the one before.");
        promise(21, ReturnsTest::width, "Returns the width of a branch by a choice.", "Returns the width.");
    }

    private static void tryConnectorsAndProofs() {
        promise(22, ReturnsTest::connector, "Adds a connector.", "Returns its number.");
        promise(23, ReturnsTest::inCavity, "Returns the circuit in a cavity by a choice.", "Returns the circuit.");
        promise(24, ReturnsTest::plugs, "Returns how many cavities of a connector are plugged by a choice.",
                "Returns how many.");
        promise(25, ReturnsTest::loose, "Returns how many circuits are loose by a choice, each end counted.",
                "Returns how many.");
        promise(26, ReturnsTest::proof, "Returns how a choice is proved.",
                "Returns 'b', 'n', 'w', 'l', 'd' or 'p'.");
        promise(27, ReturnsTest::unproved, "Returns the first buildable choice that is not proved, by rising bits.",
                "Returns the choice.");
        promise(28, ReturnsTest::module, "Adds a module.", "Returns its number.");
        promise(29, ReturnsTest::built, "Returns of which modules a choice is built.",
                "Returns the modules, as bits.");
    }

    private static void tryMachineAndBoard() {
        promise(30, ReturnsTest::order, "Orders a vehicle.", "Returns how many are ordered.");
        promise(31, ReturnsTest::stock, "Puts wires into old stock.",
                "Returns how many of this kind there are.");
        promise(32, ReturnsTest::inStock, "Returns how many wires of a kind are in old stock.",
                "Returns how many.");
        promise(33, ReturnsTest::toCut, "Returns how many wires the machine would cut for what is ordered.",
                "Returns how many.");
        promise(34, ReturnsTest::cut, "Cuts wires for what is ordered.", "Returns the cost.");
        promise(35, ReturnsTest::laid, "Returns how many circuits are laid on the board by a choice.",
                "Returns how many.");
        promise(36, ReturnsTest::laidAt, "Returns a circuit by the order on the board.", "Returns the circuit.");
        promise(37, ReturnsTest::lineTime, "Returns the greatest time of a place on a line.",
                "Returns the time.");
    }

    private static void tryFaultsAndChanges() {
        promise(38, ReturnsTest::open, "Tells that a circuit is open.", "Returns how many faults are told.");
        promise(39, ReturnsTest::shorted, "Tells that two circuits are short.",
                "Returns how many faults are told.");
        promise(40, ReturnsTest::mend, "Takes all faults away.", "Returns how many there were.");
        promise(41, ReturnsTest::leads, "Returns whether a circuit leads.", "Returns whether it does.");
        promise(42, ReturnsTest::touch, "Returns whether two circuits touch.",
                "Returns whether they do, true for the same.");
        promise(43, ReturnsTest::tests, "Returns how many tests are needed at most to find which of the circuits "
                + "that a choice needs is open, if one is at most, each test being of a set.",
                "Returns the least k with 2 to the power of k at least the number of circuits and 1.");
        promise(44, ReturnsTest::change, "Tells a change.", "Returns how many are told.");
        promise(45, ReturnsTest::chassis, "Tells the chassis.", "Returns the one before.");
    }

    private static void trySums() {
        promise(46, ReturnsTest::cost, "Returns the cost of a choice.", "Returns the cost.");
        promise(47, ReturnsTest::costOf, "Returns what an option costs.", "Returns the sum.");
        promise(48, ReturnsTest::checksum, "Returns a sum over the vehicle.", "Returns 7 at first, then for each "
                + "choice, by rising bits, 31 times itself plus the proof as a number, then 31 times itself plus "
                + "the cost.");
        promise(49, ReturnsTest::provedShare, "Returns the share of buildable choices that are proved.",
                "Returns their number divided by that of all buildable ones, both converted to float.");
        promise(50, ReturnsTest::meanLength, "Returns the mean length of wires of circuits that can be laid, 2 more "
                + "not counted.", "Returns the sum divided by the number of wires, both converted to double.");
        promise(51, ReturnsTest::isSound, "Checks the vehicle: least ways are those found by trying all; each splice "
                + "is the best of all points; the order on the board keeps what goes ahead; and a choice that is "
                + "proved has each circuit that it needs in a cavity at each connector point, and no branch beyond "
                + "what it bears.", "Returns whether all of this holds.");
    }

    public static void main(String[] args) {
        tryOptionsAndNet();
        tryCircuits();
        tryConnectorsAndProofs();
        tryMachineAndBoard();
        tryFaultsAndChanges();
        trySums();
        end();
    }
}
