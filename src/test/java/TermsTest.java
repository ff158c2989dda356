import java.util.ArrayList;
import java.util.List;
import java.util.Set;
import java.util.TreeSet;

/**
 * A test for each sentence of the document's terms, at its bounds: just inside, at, and just
 * outside. The two sentences of exceptions are tried by RefusedTest.
 */
public final class TermsTest extends Sentences {
    private static final String LEFT_TO_REFUSED_TEST = "A method that throws an exception changes nothing. "
            + "If several conditions of a method apply, the exception that is listed first is thrown.";

    // Options

    private static void atMostEightOptions() {
        Harnessboard none = new Harnessboard();
        thrown("an option of none", INDEX, () -> none.costOf(0));
        due("the choice of none", none.isBuildable(0), true);
        thrown("a choice with an option of none", ARGUMENT, () -> none.isBuildable(1));
        Harnessboard x = new Harnessboard();
        for (int i = 0; i < 8; i++) {
            int next = i;
            thrown("not yet " + i, INDEX, () -> x.costOf(next));
            thrown("not yet in a choice " + i, ARGUMENT, () -> x.isBuildable(1 << next));
            due("option", x.option(), i);
            due("now " + i, x.costOf(i), 0L);
            due("all options", x.isBuildable((2 << i) - 1), true);
        }
        thrown("a ninth", STATE, x::option);
        thrown("which there is not", INDEX, () -> x.costOf(8));
        thrown("nor in a choice", ARGUMENT, () -> x.isBuildable(256));
        due("choices of eight", x.buildable(), 256);
    }

    private static void rules() {
        Harnessboard x = Vehicles.withOptions(8);
        thrown("the first one with itself", ARGUMENT, () -> x.rule(0, 0, 'x'));
        thrown("the last one with itself", ARGUMENT, () -> x.rule(7, 7, 'f'));
        due("two that exclude each other", x.rule(7, 0, 'x'), 1);
        due("neither", x.isBuildable(0), true);
        due("the one", x.isBuildable(128), true);
        due("the other", x.isBuildable(1), true);
        due("both", x.isBuildable(129), false);
        due("one forces the other", x.rule(6, 1, 'f'), 2);
        due("neither", x.isBuildable(0), true);
        due("the one that forces", x.isBuildable(64), false);
        due("the one that is forced", x.isBuildable(2), true);
        due("both", x.isBuildable(66), true);
        for (int i = 3; i < 12; i++) {
            due("a rule told again", x.rule(7, 0, 'x'), i);
        }
        due("before the twelfth", x.isBuildable(4), true);
        due("the twelfth", x.rule(2, 3, 'f'), 12);
        due("which holds", x.isBuildable(4), false);
        thrown("a thirteenth", STATE, () -> x.rule(4, 5, 'x'));
        due("which does not hold", x.isBuildable(48), true);
        due("the first still holds", x.isBuildable(129), false);
        due("the second still holds", x.isBuildable(64), false);
    }

    private static void allRulesHold() {
        Harnessboard x = Vehicles.withOptions(8);
        for (int i = 0; i < 8; i++) {
            x.rule(i, (i + 1) % 8, 'f');
        }
        due("none or all", x.buildable(), 2);
        due("none", x.isBuildable(0), true);
        due("all", x.isBuildable(255), true);
        for (int i = 0; i < 8; i++) {
            due("all but " + i, x.isBuildable(255 & ~(1 << i)), false);
            due("alone " + i, x.isBuildable(1 << i), false);
        }
        x.rule(0, 7, 'x');
        due("none alone is always left", x.buildable(), 1);
        due("none", x.isBuildable(0), true);
        due("all", x.isBuildable(255), false);
        for (int outside : new int[] {-1, 256, 511, LEAST_INT, GREATEST_INT, -256}) {
            thrown("a choice of others " + outside, ARGUMENT, () -> x.isBuildable(outside));
        }
    }

    // Branches

    private static void pointsAndBranches() {
        Harnessboard x = new Harnessboard();
        for (int i = 0; i < 10; i++) {
            int next = i;
            thrown("not yet " + i, INDEX, () -> x.way(next, next, false));
            due("point", x.point(), i);
            due("now " + i, x.way(i, i, false), 0);
        }
        thrown("an eleventh", STATE, x::point);
        thrown("which there is not", INDEX, () -> x.way(10, 10, false));
        for (int i = 0; i < 10; i++) {
            int same = i;
            thrown("from a point to itself " + i, ARGUMENT, () -> x.branch(same, same, 5, false, 5));
        }
        for (int i = 0; i < 16; i++) {
            int next = i;
            thrown("not yet " + i, INDEX, () -> x.width(0, next));
            due("branch", x.branch(9, 0, 99 - i, i % 2 == 0, 1 + i), i);
            due("now " + i, x.width(0, i), 0);
            due("the least of them", x.way(0, 9, false), 99 - i);
        }
        thrown("a seventeenth", STATE, () -> x.branch(0, 9, 1, false, 5));
        thrown("which there is not", INDEX, () -> x.width(0, 16));
        due("which is no way", x.way(0, 9, false), 84);
        due("the last dry one", x.way(0, 9, true), 84);
    }

    private static void lengthsOfBranches() {
        for (int length : new int[] {1, 2, 98, 99}) {
            Harnessboard x = Vehicles.withPoints(2);
            due("a branch of length " + length, x.branch(0, 1, length, false, 5), 0);
            due("of length " + length, x.way(1, 0, true), length);
        }
        for (int length : new int[] {0, -1, 100, -99, LEAST_INT, GREATEST_INT}) {
            Harnessboard x = Vehicles.withPoints(2);
            thrown("length " + length, ARGUMENT, () -> x.branch(0, 1, length, false, 5));
            thrown("no way of length " + length, ELEMENT, () -> x.way(0, 1, false));
            due("the next branch", x.branch(0, 1, 5, false, 5), 0);
        }
    }

    private static void widthsOfBranches() {
        for (int bears : new int[] {1, 2, 98, 99}) {
            Harnessboard x = Vehicles.withPoints(2);
            due("a branch that bears " + bears, x.branch(0, 1, 5, false, bears), 0);
            for (int left = bears; left > 0; left -= 9) {
                x.circuit(0, 1, -1, Math.min(9, left), 1, false);
            }
            due("as much as it bears", x.width(0, 0), bears);
            due("proved with " + bears, x.proof(0), 'p');
            x.circuit(0, 1, -1, 1, 1, false);
            due("one more than it bears", x.width(0, 0), bears + 1);
            due("too wide for " + bears, x.proof(0), 'w');
        }
        for (int bears : new int[] {0, -1, 100, -99, LEAST_INT, GREATEST_INT}) {
            Harnessboard x = Vehicles.withPoints(2);
            thrown("bears " + bears, ARGUMENT, () -> x.branch(0, 1, 5, false, bears));
            thrown("no branch that bears " + bears, INDEX, () -> x.width(0, 0));
        }
    }

    private static void branches() {
        pointsAndBranches();
        lengthsOfBranches();
        widthsOfBranches();
    }

    private static void dueWay(Harnessboard x, boolean isDry, int length, int... points) {
        int from = points[0];
        int to = points[points.length - 1];
        String what = "from " + from + " to " + to;
        due(what, x.way(from, to, isDry), length);
        for (int i = 0; i < points.length; i++) {
            due(what + ", point " + i, x.wayPoint(from, to, isDry, i), points[i]);
        }
        for (int index : new int[] {-1, points.length, LEAST_INT, GREATEST_INT}) {
            thrown(what + ", no point " + index, ELEMENT, () -> x.wayPoint(from, to, isDry, index));
        }
    }

    private static void noPointTwice() {
        Harnessboard x = Vehicles.row(10, 99);
        dueWay(x, false, 891, 0, 1, 2, 3, 4, 5, 6, 7, 8, 9);
        dueWay(x, true, 891, 9, 8, 7, 6, 5, 4, 3, 2, 1, 0);
        dueWay(x, true, 0, 9);
        x.branch(9, 0, 1, true, 9);
        dueWay(x, false, 1, 0, 9);
        dueWay(x, false, 0, 0);
        dueWay(x, true, 891, 0, 1, 2, 3, 4, 5, 6, 7, 8, 9);
        Harnessboard alone = Vehicles.withPoints(1);
        dueWay(alone, false, 0, 0);
        dueWay(alone, true, 0, 0);
        alone.point();
        thrown("to a point without branches", ELEMENT, () -> alone.way(0, 1, false));
        thrown("to it, its first point", ELEMENT, () -> alone.wayPoint(0, 1, false, 0));
    }

    private static void fewestBranches() {
        for (int direct : new int[] {10, 11, 12}) {
            Harnessboard x = Vehicles.withPoints(3);
            x.branch(0, 1, 5, false, 9);
            x.branch(1, 2, 6, false, 9);
            x.branch(0, 2, direct, false, 9);
            if (direct <= 11) {
                dueWay(x, false, direct, 0, 2);
                dueWay(x, true, direct, 2, 0);
            } else {
                dueWay(x, false, 11, 0, 1, 2);
                dueWay(x, true, 11, 2, 1, 0);
            }
        }
        Harnessboard y = Vehicles.withPoints(10);
        int[] most = {0, 1, 2, 3, 4, 5, 6, 7, 8, 9};
        for (int i = 1; i < 10; i++) {
            y.branch(i - 1, i, 2, false, 9);
        }
        y.branch(0, 9, 19, false, 9);
        dueWay(y, false, 18, most);
        y.branch(0, 8, 16, false, 9);
        dueWay(y, false, 18, 0, 8, 9);
        y.branch(9, 0, 18, false, 9);
        dueWay(y, false, 18, 0, 9);
    }

    private static void lowerPoints() {
        for (int other : new int[] {4, 5, 6}) {
            Harnessboard x = Vehicles.withPoints(5);
            x.branch(0, 2, other, false, 9);
            x.branch(0, 3, 5, false, 9);
            x.branch(0, 1, 5, false, 9);
            for (int i = 1; i < 4; i++) {
                x.branch(i, 4, 6, false, 9);
            }
            dueWay(x, false, Math.min(5, other) + 6, 0, other < 5 ? 2 : 1, 4);
            dueWay(x, false, Math.min(5, other) + 6, 4, other < 5 ? 2 : 1, 0);
        }
        Harnessboard y = Vehicles.withPoints(10);
        int[][] pairs = {{0, 1}, {1, 8}, {8, 9}, {0, 2}, {2, 3}, {3, 9}, {1, 7}, {7, 9}};
        for (int[] pair : pairs) {
            y.branch(pair[0], pair[1], 1, false, 9);
        }
        dueWay(y, false, 3, 0, 1, 7, 9);
        dueWay(y, false, 3, 9, 3, 2, 0);
        y.branch(9, 2, 2, true, 9);
        dueWay(y, false, 3, 0, 2, 9);
        dueWay(y, true, 3, 0, 1, 7, 9);
    }

    private static void lowerBranches() {
        for (int first : new int[] {4, 5, 6}) {
            Harnessboard x = Vehicles.withPoints(2);
            x.branch(0, 1, first, false, 9);
            x.branch(1, 0, 5, false, 9);
            x.circuit(0, 1, -1, 1, 1, false);
            due("the first of two, of length " + first, x.goesThrough(0, 0), first <= 5);
            due("the second, of length 5", x.goesThrough(0, 1), first > 5);
        }
        Harnessboard y = Vehicles.withPoints(3);
        y.branch(1, 2, 5, false, 9);
        y.branch(0, 1, 5, false, 9);
        y.branch(1, 0, 5, false, 9);
        y.branch(2, 1, 5, false, 9);
        y.circuit(0, 2, -1, 1, 1, false);
        y.circuit(2, 0, -1, 1, 1, false);
        for (int branch = 0; branch < 4; branch++) {
            due("through " + branch, y.goesThrough(0, branch), branch < 2);
            due("back through " + branch, y.goesThrough(1, branch), branch < 2);
        }
    }

    private static void leastWay() {
        fewestBranches();
        lowerPoints();
        lowerBranches();
    }

    private static void dryBranchesAlone() {
        Harnessboard x = Vehicles.row(4, 99);
        x.branch(0, 3, 1, true, 9);
        x.circuit(0, 3, -1, 1, 1, true);
        x.circuit(0, 3, -1, 1, 1, false);
        due("dry, by far", x.wireLength(0, 0), 297);
        due("wet or dry", x.wireLength(1, 0), 1);
        due("dry, not through the wet one", x.goesThrough(0, 3), false);
        due("wet or dry, through the wet one", x.goesThrough(1, 3), true);
        Harnessboard y = Vehicles.withPoints(3);
        y.circuit(0, 2, -1, 1, 1, true);
        y.circuit(0, 1, 2, 1, 1, true);
        y.branch(0, 1, 1, false, 9);
        y.branch(1, 2, 1, true, 9);
        due("one wet branch is too many", y.canBeLaid(0), false);
        due("also of three ends", y.canBeLaid(1), false);
        thrown("dry, no way", ELEMENT, () -> y.way(0, 2, true));
        y.branch(1, 2, 99, false, 9);
        due("all dry", y.canBeLaid(0), true);
        due("all dry, of three ends", y.canBeLaid(1), true);
        due("by the dry one", y.way(0, 2, true), 100);
        due("wet or dry", y.way(0, 2, false), 2);
    }

    // Circuits

    private static void twelveCircuits() {
        Harnessboard x = Vehicles.withPoints(10);
        for (int i = 0; i < 12; i++) {
            int next = i;
            thrown("not yet " + i, INDEX, () -> x.size(next));
            due("circuit", x.circuit(i % 10, (i + 9) % 10, i % 2 == 0 ? -1 : (i + 1) % 10, 1 + i % 9, i, true), i);
            due("now " + i, x.size(i), 1 + i % 9);
        }
        thrown("a thirteenth", STATE, () -> x.circuit(0, 1, -1, 1, 1, false));
        thrown("which there is not", INDEX, () -> x.size(12));
        thrown("the first and second alike", ARGUMENT, () -> x.circuit(9, 9, -1, 1, 1, false));
        thrown("the first and third alike", ARGUMENT, () -> x.circuit(9, 0, 9, 1, 1, false));
        thrown("the second and third alike", ARGUMENT, () -> x.circuit(0, 9, 9, 1, 1, false));
        thrown("a first end below", INDEX, () -> x.circuit(-1, 9, -1, 1, 1, false));
        thrown("a second end below", INDEX, () -> x.circuit(0, -1, -1, 1, 1, false));
        thrown("a third end below none", INDEX, () -> x.circuit(0, 1, -2, 1, 1, false));
    }

    private static void sizesAndAmperes() {
        for (int size : new int[] {1, 2, 8, 9}) {
            Harnessboard x = Vehicles.row(2, 1);
            due("a circuit of size " + size, x.circuit(0, 1, -1, size, 1, false), 0);
            due("its size", x.size(0), size);
        }
        for (int amperes : new int[] {0, 1, 98, 99}) {
            Harnessboard x = Vehicles.row(2, 1);
            due("a circuit of amperes " + amperes, x.circuit(1, 0, -1, 1, amperes, false), 0);
            due("its drop", x.drop(0, 1), amperes);
        }
        for (int outside : new int[] {-1, 100, -9, LEAST_INT, GREATEST_INT}) {
            Harnessboard x = Vehicles.row(2, 1);
            thrown("size " + outside, ARGUMENT, () -> x.circuit(0, 1, -1, outside, 1, false));
            thrown("amperes " + outside, ARGUMENT, () -> x.circuit(0, 1, -1, 1, outside, false));
            thrown("no circuit", INDEX, () -> x.size(0));
        }
        Harnessboard x = Vehicles.row(2, 1);
        thrown("size 0", ARGUMENT, () -> x.circuit(0, 1, -1, 0, 1, false));
        thrown("size 10", ARGUMENT, () -> x.circuit(0, 1, -1, 10, 1, false));
        due("the next circuit", x.circuit(0, 1, -1, 9, 99, false), 0);
    }

    private static void setsOfNeeds() {
        Harnessboard x = Vehicles.withCircuits(1);
        due("without options", x.needs(0, 0), true);
        for (int i = 0; i < 8; i++) {
            x.option();
        }
        int[][] needs = {{0, 0}, {255, 0}, {0, 255}, {255, 255}, {128, 0}, {0, 128}, {1, 1}, {15, 240}, {1, 128}};
        for (int[] need : needs) {
            x = Vehicles.withCircuits(1);
            for (int i = 0; i < 8; i++) {
                x.option();
            }
            x.need(0, need[0], need[1]);
            for (int choice = 0; choice < 256; choice++) {
                boolean hasAll = true;
                boolean hasNone = true;
                for (int bit = 1; bit < 256; bit *= 2) {
                    hasAll &= (need[0] & bit) == 0 || (choice & bit) != 0;
                    hasNone &= (need[1] & bit) == 0 || (choice & bit) == 0;
                }
                due("all of " + need[0] + ", none of " + need[1] + ": " + choice, x.needs(choice, 0),
                        hasAll && hasNone);
            }
        }
    }

    private static void circuits() {
        twelveCircuits();
        sizesAndAmperes();
        setsOfNeeds();
    }

    /** Two ways from 0 to 5, one over 1 and 4 and one over 2 and 3, of which each is least one way round. */
    private static Harnessboard twoWays(int points) {
        Harnessboard x = Vehicles.withPoints(points);
        int[][] pairs = {{0, 1}, {1, 4}, {4, 5}, {0, 2}, {2, 3}, {3, 5}};
        for (int[] pair : pairs) {
            x.branch(pair[0], pair[1], 1, false, 99);
        }
        return x;
    }

    private static void fromFirstToSecondEnd() {
        Harnessboard x = twoWays(6);
        x.circuit(0, 5, -1, 1, 1, false);
        x.circuit(5, 0, -1, 1, 1, false);
        for (int branch = 0; branch < 6; branch++) {
            due("from 0 to 5 through " + branch, x.goesThrough(0, branch), branch < 3);
            due("from 5 to 0 through " + branch, x.goesThrough(1, branch), branch >= 3);
        }
        due("one wire", x.wires(0), 1);
        due("its length", x.wireLength(0, 0), 3);
        thrown("no wire from the second end", ELEMENT, () -> x.wireLength(0, 1));
        thrown("no splice", ELEMENT, () -> x.splice(0));
        Harnessboard far = Vehicles.row(10, 99);
        far.circuit(9, 0, -1, 1, 1, true);
        due("the longest wire", far.wireLength(0, 0), 891);
        for (int branch = 0; branch < 9; branch++) {
            due("through all " + branch, far.goesThrough(0, branch), true);
        }
    }

    /** A ring of three ends, 2 from each other, and a middle; the third end is so far from the middle. */
    private static Harnessboard ring(int middle, int far) {
        Harnessboard x = Vehicles.withPoints(4);
        int[] ends = middle == 0 ? new int[] {1, 2, 3} : new int[] {0, 1, 2};
        x.branch(ends[0], ends[1], 2, false, 99);
        x.branch(ends[1], ends[2], 2, false, 99);
        x.branch(ends[2], ends[0], 2, false, 99);
        for (int i = 0; i < 3; i++) {
            x.branch(middle, ends[i], i < 2 ? 1 : far, false, 99);
        }
        x.circuit(ends[0], ends[1], ends[2], 1, 1, false);
        return x;
    }

    private static void leastSplice() {
        due("the middle is better", ring(3, 1).splice(0), 3);
        due("with three wires", ring(3, 1).wires(0), 3);
        due("it is like an end that is lower", ring(3, 2).splice(0), 0);
        due("with two wires", ring(3, 2).wires(0), 2);
        due("it is worse", ring(3, 3).splice(0), 0);
        due("a low middle is better", ring(0, 1).splice(0), 0);
        due("it is like an end that is higher", ring(0, 2).splice(0), 0);
        due("it is worse than each end", ring(0, 3).splice(0), 1);
        Harnessboard x = Vehicles.row(10, 99);
        x.circuit(0, 9, 8, 1, 1, false);
        x.circuit(9, 1, 0, 1, 1, false);
        x.circuit(0, 9, 4, 1, 1, false);
        due("near the upper end", x.splice(0), 8);
        due("near the lower end", x.splice(1), 1);
        due("in the row", x.splice(2), 4);
        Harnessboard last = Vehicles.withPoints(10);
        for (int i = 0; i < 9; i++) {
            last.branch(9, i, 1 + i, false, 99);
        }
        last.circuit(0, 4, 8, 1, 1, false);
        due("the greatest point", last.splice(0), 9);
        due("the first wire", last.wireLength(0, 0), 1);
        due("the second wire", last.wireLength(0, 1), 5);
        due("the third wire", last.wireLength(0, 2), 9);
    }

    private static void wiresGoToTheSplice() {
        Harnessboard x = twoWays(8);
        x.branch(5, 6, 1, false, 99);
        x.branch(5, 7, 1, false, 99);
        x.circuit(0, 6, 7, 1, 1, false);
        x.circuit(6, 7, 5, 1, 1, false);
        due("the splice", x.splice(0), 5);
        for (int branch = 0; branch < 8; branch++) {
            due("through " + branch, x.goesThrough(0, branch), branch < 3 || branch > 5);
        }
        due("the splice is the third end", x.splice(1), 5);
        due("no wire of it", x.wires(1), 2);
        Harnessboard y = twoWays(8);
        y.branch(0, 6, 1, false, 99);
        y.branch(0, 7, 1, false, 99);
        y.circuit(7, 5, 6, 1, 1, false);
        due("the splice", y.splice(0), 0);
        for (int branch = 0; branch < 8; branch++) {
            due("to the other side through " + branch, y.goesThrough(0, branch), branch >= 3);
        }
    }

    private static void splices() {
        leastSplice();
        wiresGoToTheSplice();
    }

    private static void canBeLaid() {
        Harnessboard x = Vehicles.withPoints(5);
        x.circuit(0, 1, -1, 1, 1, false);
        x.circuit(0, 1, 2, 1, 1, false);
        x.circuit(0, 1, 2, 1, 1, true);
        due("without branches", x.canBeLaid(0), false);
        x.branch(0, 3, 1, false, 9);
        due("one end has a branch", x.canBeLaid(0), false);
        x.branch(4, 1, 1, false, 9);
        due("both have, but no way", x.canBeLaid(0), false);
        x.branch(3, 4, 1, true, 9);
        due("a way", x.canBeLaid(0), true);
        due("the third end has none", x.canBeLaid(1), false);
        due("no wires at all", x.wires(1), 0);
        thrown("no splice", ELEMENT, () -> x.splice(1));
        thrown("no drop at an end that could be", ELEMENT, () -> x.drop(1, 1));
        x.branch(2, 4, 1, false, 9);
        due("all three", x.canBeLaid(1), true);
        due("not dry", x.canBeLaid(2), false);
        x.branch(4, 3, 99, false, 9);
        due("dry, too", x.canBeLaid(2), true);
    }

    /**
     * No branch ever bears two wires of one circuit: where the first of them comes to the branch, all
     * three wires together would be shorter. So what is counted twice can't be tried.
     */
    private static void widths() {
        Harnessboard x = Vehicles.row(2, 1);
        x.option();
        due("nothing goes through it", x.width(0, 0), 0);
        for (int i = 1; i <= 12; i++) {
            x.circuit(0, 1, -1, 9, 1, false);
            due("circuits that go through it", x.width(0, 0), 9 * i);
        }
        x.need(11, 1, 0);
        due("one is not needed", x.width(0, 0), 99);
        due("but with the option", x.width(1, 0), 108);
        x.change(0, 0, 1);
        due("one is of size 1", x.width(1, 0), 100);
        Harnessboard star = Vehicles.withPoints(5);
        for (int i = 1; i < 4; i++) {
            star.branch(0, i, 5, false, 99);
        }
        star.circuit(1, 2, 3, 7, 1, false);
        star.circuit(0, 1, 4, 9, 1, false);
        for (int branch = 0; branch < 3; branch++) {
            due("a wire of each end, one cannot be laid " + branch, star.width(0, branch), 7);
        }
        star.branch(0, 4, 5, false, 99);
        due("now it can", star.width(0, 0), 16);
        due("not through this one", star.width(0, 1), 7);
        due("through the new one", star.width(0, 3), 9);
    }

    private static void drops() {
        Harnessboard far = Vehicles.row(10, 99);
        far.circuit(0, 9, -1, 1, 99, false);
        far.circuit(0, 9, -1, 1, 0, false);
        far.circuit(0, 5, 9, 1, 99, false);
        due("the greatest", far.drop(0, 1), 88209);
        due("without amperes", far.drop(1, 1), 0);
        due("to the second end, the splice", far.drop(2, 1), 99 * 495);
        due("to the third end", far.drop(2, 2), 88209);
        for (int length : new int[] {8, 9, 10, 17, 18}) {
            Harnessboard x = Vehicles.row(2, length);
            x.circuit(0, 1, -1, 9, 1, false);
            due("cut, of length " + length, x.drop(0, 1), length / 9);
        }
        Harnessboard y = Vehicles.withPoints(3);
        y.branch(0, 1, 3, false, 99);
        y.branch(1, 2, 3, false, 99);
        y.branch(0, 2, 5, false, 99);
        y.circuit(0, 1, 2, 1, 10, false);
        y.circuit(1, 2, 0, 1, 10, false);
        due("by its wires, though there is a shorter way", y.drop(0, 2), 60);
        due("to the second end", y.drop(0, 1), 30);
        due("from the splice", y.drop(1, 1), 30);
        due("from the splice to the third end", y.drop(1, 2), 30);
        for (int end : new int[] {0, -1, 3, LEAST_INT, GREATEST_INT}) {
            thrown("no end " + end, ELEMENT, () -> y.drop(0, end));
        }
        thrown("no third end", ELEMENT, () -> far.drop(0, 2));
    }

    // Connectors

    private static void sixConnectors() {
        Harnessboard x = Vehicles.withPoints(10);
        for (int i = 0; i < 6; i++) {
            int next = i;
            thrown("not yet " + i, INDEX, () -> x.plugs(0, next));
            due("connector", x.connector(i % 2 * 9, 1 + i, 1 + i, true), i);
            due("its cavities", x.plugs(0, i), 1 + i);
        }
        thrown("a seventh", STATE, () -> x.connector(0, 1, 1, true));
        thrown("which there is not", INDEX, () -> x.plugs(0, 6));
        thrown("at no point", INDEX, () -> x.connector(10, 1, 1, true));
        thrown("at a point below", INDEX, () -> x.connector(-1, 1, 1, true));
    }

    private static void cavitiesAndSizes() {
        for (int cavities : new int[] {1, 2, 8, 9}) {
            Harnessboard x = Vehicles.withPoints(1);
            due("a connector of cavities " + cavities, x.connector(0, cavities, 5, true), 0);
            due("all are free", x.plugs(0, 0), cavities);
            thrown("the first is free", ELEMENT, () -> x.inCavity(0, 0, 0));
            thrown("the last is free", ELEMENT, () -> x.inCavity(0, 0, cavities - 1));
            for (int outside : new int[] {-1, cavities, 10, LEAST_INT, GREATEST_INT}) {
                thrown("no cavity " + outside, INDEX, () -> x.inCavity(0, 0, outside));
            }
        }
        for (int most : new int[] {1, 2, 8, 9}) {
            Harnessboard x = Vehicles.withPoints(2);
            x.connector(0, 9, most, true);
            for (int size = 1; size <= 9; size++) {
                x.circuit(0, 1, -1, size, 1, false);
            }
            due("too great for " + most, x.loose(0), 9 - most);
            due("the greatest for " + most, x.inCavity(0, 0, most - 1), most - 1);
        }
        for (int outside : new int[] {0, 10, -1, LEAST_INT, GREATEST_INT}) {
            Harnessboard x = Vehicles.withPoints(1);
            thrown("cavities " + outside, ARGUMENT, () -> x.connector(0, outside, 1, true));
            thrown("sizes up to " + outside, ARGUMENT, () -> x.connector(0, 1, outside, true));
            thrown("no connector", INDEX, () -> x.plugs(0, 0));
        }
    }

    private static void connectors() {
        sixConnectors();
        cavitiesAndSizes();
    }

    private static void dueHeld(String what, Harnessboard x, int choice, int connector, int... circuits) {
        for (int i = 0; i < circuits.length; i++) {
            due(what + ", in cavity " + i, x.inCavity(choice, connector, i), circuits[i]);
        }
        String next = Call.of("inCavity", choice, connector, circuits.length).on(x);
        require(next.startsWith("throws "), what + ", and one more: " + next);
    }

    private static void takeCavities() {
        Harnessboard x = Vehicles.withPoints(3);
        x.option();
        x.connector(0, 9, 9, true);
        x.connector(0, 2, 9, true);
        x.connector(1, 1, 9, true);
        dueHeld("nothing", x, 0, 0);
        int[] nine = {0, 1, 2, 3, 4, 5, 6, 7, 8};
        for (int i = 0; i < 9; i++) {
            x.circuit(0, 2, -1, 9, 1, false);
        }
        dueHeld("nine of nine", x, 0, 0, nine);
        dueHeld("none for the next", x, 0, 1);
        x.circuit(2, 0, -1, 9, 1, false);
        x.circuit(2, 1, 0, 9, 1, true);
        dueHeld("nine of eleven", x, 0, 0, nine);
        dueHeld("which go on in the next one", x, 0, 1, 9, 10);
        dueHeld("a second end elsewhere", x, 0, 2, 10);
        due("none is loose", x.loose(0), 0);
        x.circuit(1, 0, -1, 1, 1, false);
        dueHeld("no other is free", x, 0, 1, 9, 10);
        due("both ends of the last are loose", x.loose(0), 2);
        x.need(0, 1, 0);
        dueHeld("without the first", x, 0, 0, 1, 2, 3, 4, 5, 6, 7, 8, 9);
        dueHeld("the last one now has one", x, 0, 1, 10, 11);
        dueHeld("with the first", x, 1, 0, nine);
    }

    private static void sealedOrDry() {
        for (int kind = 0; kind < 4; kind++) {
            boolean isSealed = kind >= 2;
            boolean isDry = kind % 2 == 1;
            Harnessboard x = Vehicles.withPoints(2);
            x.connector(0, 1, 5, isSealed);
            x.circuit(0, 1, -1, 5, 1, isDry);
            due("sealed " + isSealed + ", dry " + isDry, x.loose(0), isSealed || isDry ? 0 : 1);
        }
        Harnessboard x = Vehicles.withPoints(2);
        x.connector(0, 1, 9, false);
        x.connector(0, 1, 2, true);
        x.connector(0, 1, 3, true);
        x.circuit(0, 1, -1, 3, 1, false);
        x.circuit(0, 1, -1, 2, 1, true);
        x.circuit(0, 1, -1, 2, 1, false);
        dueHeld("the lowest, as it must be dry", x, 0, 0, 1);
        dueHeld("for such a size", x, 0, 1, 2);
        dueHeld("the first one needs the last", x, 0, 2, 0);
        x.change(0, 0, 4);
        dueHeld("too great for all", x, 0, 2);
        due("loose", x.loose(0), 1);
    }

    private static void cavities() {
        takeCavities();
        sealedOrDry();
    }

    private static void looseEnds() {
        Harnessboard x = Vehicles.withPoints(4);
        due("nothing", x.loose(0), 0);
        x.circuit(0, 1, 2, 1, 1, false);
        due("no connector is there", x.loose(0), 0);
        x.connector(3, 1, 1, false);
        due("nor where it ends", x.loose(0), 0);
        for (int point = 0; point < 3; point++) {
            x.connector(point, 1, 9, false);
            due("not sealed", x.loose(0), point + 1);
        }
        for (int i = 0; i < 11; i++) {
            x.circuit(2, 1, 0, 9, 1, false);
        }
        due("all ends of all", x.loose(0), 36);
        x.connector(1, 9, 9, true);
        due("nine of twelve at one point", x.loose(0), 27);
        x.connector(1, 3, 9, true);
        due("all of twelve there", x.loose(0), 24);
    }

    private static void plugged() {
        Harnessboard x = Vehicles.withPoints(2);
        x.option();
        x.connector(0, 9, 9, true);
        x.connector(1, 9, 9, false);
        for (int i = 0; i <= 12; i++) {
            due("with circuits " + i, x.plugs(0, 0), Math.max(0, 9 - i));
            due("not sealed", x.plugs(0, 1), 0);
            if (i < 12) {
                x.circuit(0, 1, -1, 9, 1, true);
            }
        }
        for (int i = 0; i < 12; i++) {
            x.need(i, 1, 0);
        }
        due("none needed", x.plugs(0, 0), 9);
        due("all needed", x.plugs(1, 0), 0);
    }

    // Proofs

    /** By rising numbers, the options take away what would be told first. */
    private static void firstLetter() {
        Harnessboard x = Vehicles.row(3, 10);
        x.point();
        for (int i = 0; i < 5; i++) {
            x.option();
        }
        x.rule(0, 4, 'x');
        x.circuit(0, 3, -1, 1, 1, false);
        x.need(0, 0, 2);
        x.circuit(0, 1, -1, 9, 1, true);
        x.need(1, 0, 4);
        x.branch(0, 1, 1, false, 8);
        x.connector(2, 1, 5, true);
        x.circuit(1, 2, -1, 6, 1, false);
        x.need(2, 0, 8);
        x.circuit(1, 2, -1, 1, 1, false);
        x.need(3, 0, 16);
        x.limit(9);
        due("not buildable, though all else holds, too", x.proof(0b10001), 'b');
        due("one cannot be laid", x.proof(0), 'n');
        due("too wide", x.proof(0b00010), 'w');
        due("loose", x.proof(0b00110), 'l');
        due("a drop", x.proof(0b01110), 'd');
        due("proved", x.proof(0b11110), 'p');
        due("not buildable, though it were proved", x.proof(0b11111), 'b');
    }

    private static void limits() {
        Harnessboard x = Vehicles.withPoints(3);
        x.branch(0, 1, 99, false, 99);
        x.branch(1, 2, 2, false, 99);
        x.circuit(0, 2, -1, 1, 99, false);
        due("the greatest limit, at first", x.drop(0, 1), 9999);
        due("at it", x.proof(0), 'p');
        x.limit(9998);
        due("one above", x.proof(0), 'd');
        Harnessboard y = Vehicles.withPoints(3);
        y.branch(0, 1, 99, false, 99);
        y.branch(1, 2, 26, false, 99);
        y.circuit(0, 2, -1, 1, 80, false);
        due("one above the limit at first", y.drop(0, 1), 10000);
        due("above it", y.proof(0), 'd');
        Harnessboard z = Vehicles.row(2, 9);
        z.circuit(0, 1, -1, 9, 1, false);
        z.circuit(0, 1, -1, 9, 0, false);
        z.limit(0);
        due("1 above 0", z.proof(0), 'd');
        z.limit(1);
        due("at 1", z.proof(0), 'p');
        z.option();
        z.need(0, 1, 0);
        z.limit(0);
        due("0 at 0", z.proof(0), 'p');
        due("1 above 0, by the other choice", z.proof(1), 'd');
    }

    private static void proofs() {
        firstLetter();
        limits();
        due("a new object", new Harnessboard().proof(0), 'p');
    }

    // Modules

    private static void sixModules() {
        Harnessboard x = Vehicles.withCircuits(12);
        for (int outside : new int[] {0, 4096, 8191, -1, LEAST_INT, GREATEST_INT, 1 << 30}) {
            thrown("a module of " + outside, ARGUMENT, () -> x.module(outside));
        }
        int[] sets = {1, 2048, 4095, 4094, 2, 1};
        for (int i = 0; i < 6; i++) {
            due("module", x.module(sets[i]), i);
        }
        thrown("a seventh", STATE, () -> x.module(1));
        due("all circuits", x.built(0), 0b000100);
        Harnessboard none = new Harnessboard();
        thrown("without circuits", ARGUMENT, () -> none.module(1));
        Harnessboard one = Vehicles.withCircuits(11);
        thrown("not yet the twelfth", ARGUMENT, () -> one.module(2048));
        due("the eleventh", one.module(1024), 0);
        one.circuit(0, 1, -1, 1, 1, false);
        due("now the twelfth", one.module(2048), 1);
    }

    private static void setsOfModules() {
        Harnessboard x = Vehicles.withCircuits(12);
        x.option();
        for (int i = 0; i < 6; i++) {
            x.module(3 << 2 * i);
        }
        due("all six", x.built(0), 63);
        for (int i = 0; i < 12; i++) {
            x.need(i, 1, 0);
        }
        due("none, for nothing is needed", x.built(0), 0);
        x.need(11, 0, 0);
        thrown("half a module", ELEMENT, () -> x.built(0));
        x.need(10, 0, 0);
        due("the last module", x.built(0), 32);
        Harnessboard y = Vehicles.withCircuits(3);
        thrown("no modules", ELEMENT, () -> y.built(0));
        y.module(0b011);
        y.module(0b110);
        thrown("one is in two of them", ELEMENT, () -> y.built(0));
        y.module(0b001);
        due("two modules", y.built(0), 0b000110);
        y.module(0b100);
        due("of like ones the lower bits", y.built(0), 0b000110);
        y.module(0b011);
        due("still", y.built(0), 0b000110);
        y.module(0b111);
        due("one module is fewer", y.built(0), 0b100000);
        Harnessboard z = Vehicles.withCircuits(2);
        z.module(2);
        z.module(1);
        z.module(1);
        due("the lower one of two that are the same", z.built(0), 0b011);
        due("a new object", new Harnessboard().built(0), 0);
    }

    // Cutting

    private static void tenOrders() {
        Harnessboard x = Vehicles.row(2, 5);
        x.option();
        x.circuit(0, 1, -1, 3, 1, false);
        x.need(0, 1, 0);
        x.change(0, 5, 4);
        for (int i = 1; i <= 10; i++) {
            x.chassis(i - 1);
            due("order", x.order(1), i);
            due("wires to cut", x.toCut(), i);
        }
        thrown("an eleventh", STATE, () -> x.order(1));
        due("which is not cut", x.toCut(), 10);
        x.stock(3, 7, 20);
        due("five ahead of the change", x.toCut(), 5);
        x.stock(4, 7, 20);
        due("and five from it on", x.toCut(), 0);
        x.chassis(0);
        due("whatever chassis is told now", x.toCut(), 0);
        due("all from stock", x.cut(), 0);
        due("five of size 3", x.inStock(3, 7), 15);
        due("five of size 4", x.inStock(4, 7), 15);
        due("then again", x.order(0), 1);
        due("without the circuit", x.toCut(), 0);
    }

    private static void twoMore() {
        int[][] ends = {{2, 1}, {10, 99}};
        for (int[] end : ends) {
            Harnessboard x = Vehicles.row(end[0], end[1]);
            int length = (end[0] - 1) * end[1];
            x.circuit(0, end[0] - 1, -1, 9, 1, false);
            x.order(0);
            for (int other : new int[] {length, length + 1, length + 3}) {
                if (other >= 3) {
                    x.stock(9, other, 20);
                    due("no wire of length " + other, x.toCut(), 1);
                }
            }
            x.stock(9, length + 2, 1);
            due("but of length " + (length + 2), x.toCut(), 0);
        }
    }

    private static void kindsOfStock() {
        int[][] kinds = {{1, 3}, {1, 4}, {1, 998}, {1, 999}, {2, 3}, {2, 999}, {8, 3}, {8, 999}, {9, 3}, {9, 4},
            {9, 999}};
        Harnessboard x = new Harnessboard();
        for (int i = 0; i < kinds.length; i++) {
            due("none yet", x.inStock(kinds[i][0], kinds[i][1]), 0);
            due("some", x.stock(kinds[i][0], kinds[i][1], i + 1), i + 1);
        }
        for (int i = 0; i < kinds.length; i++) {
            due("size " + kinds[i][0] + ", length " + kinds[i][1], x.inStock(kinds[i][0], kinds[i][1]), i + 1);
        }
        int[][] outside = {{0, 3}, {10, 3}, {-1, 3}, {1, 2}, {1, 1000}, {9, -3}, {LEAST_INT, 3}, {GREATEST_INT, 3},
            {1, LEAST_INT}, {1, GREATEST_INT}, {0, 1003}, {10, -997}};
        for (int[] kind : outside) {
            thrown("size " + kind[0] + ", length " + kind[1], ARGUMENT, () -> x.stock(kind[0], kind[1], 1));
            thrown("size " + kind[0] + ", length " + kind[1], ARGUMENT, () -> x.inStock(kind[0], kind[1]));
        }
        for (int many : new int[] {0, 21, -1, LEAST_INT, GREATEST_INT}) {
            thrown("so many " + many, ARGUMENT, () -> x.stock(1, 3, many));
        }
        due("still one", x.inStock(1, 3), 1);
        due("and 20 more", x.stock(1, 3, 20), 21);
        due("and 1 more", x.stock(1, 3, 1), 22);
    }

    private static void costOfCutting() {
        Harnessboard x = Vehicles.row(4, 5);
        x.option();
        x.order(0);
        due("no wires", x.cut(), 0);
        x.circuit(0, 1, -1, 9, 1, false);
        x.order(0);
        due("one wire", x.cut(), 5 + 1);
        x.order(0);
        x.order(0);
        due("another one of its kind", x.cut(), 5 + 2);
        x.circuit(0, 2, -1, 9, 1, false);
        x.order(0);
        due("another length", x.cut(), 5 + 1 + 1 + 1);
        x.circuit(0, 1, -1, 1, 1, false);
        x.order(0);
        due("another size, of the length ahead", x.cut(), 5 + 1 + 5 + 1 + 1 + 1);
        x.need(1, 1, 0);
        x.order(0);
        due("another size alone", x.cut(), 5 + 1 + 5 + 1);
        x.circuit(0, 1, -1, 5, 1, false);
        x.circuit(0, 2, -1, 5, 1, false);
        x.circuit(0, 3, -1, 5, 1, false);
        x.order(0);
        x.order(1);
        due("three sizes, of which one has three lengths", x.cut(), 5 + 2 + 5 + 2 + 1 + 2 + 1 + 2 + 5 + 1 + 1 + 2);
        x.stock(5, 17, 1);
        x.stock(5, 12, 1);
        x.order(0);
        due("stock spares a length", x.cut(), 5 + 1 + 5 + 1 + 5 + 1);
        due("nothing is left of it", x.inStock(5, 12) + x.inStock(5, 17), 0);
        x.stock(1, 7, 2);
        x.order(0);
        due("stock spares a size", x.cut(), 5 + 1 + 1 + 1 + 1 + 1 + 5 + 1);
        due("one is left of it", x.inStock(1, 7), 1);
    }

    private static void byThen() {
        Harnessboard x = Vehicles.withPoints(2);
        x.option();
        x.circuit(0, 1, -1, 2, 1, false);
        x.order(0);
        due("it cannot be laid", x.toCut(), 0);
        x.branch(0, 1, 9, false, 99);
        due("it can by then", x.toCut(), 1);
        x.need(0, 1, 0);
        due("it is not needed by then", x.toCut(), 0);
        x.need(0, 0, 1);
        due("it is needed by then", x.toCut(), 1);
        x.branch(0, 1, 8, false, 99);
        x.stock(2, 11, 1);
        due("it is shorter by then", x.toCut(), 1);
        x.stock(2, 10, 1);
        due("of the new length", x.toCut(), 0);
        x.change(0, 0, 3);
        due("it is of another size by then", x.toCut(), 1);
        due("which is cut", x.cut(), 6);
        due("the one is left", x.inStock(2, 11), 1);
        due("the other, too", x.inStock(2, 10), 1);
    }

    private static void cutting() {
        costOfCutting();
        byThen();
    }

    private static void thenNothing() {
        Harnessboard x = Vehicles.row(2, 5);
        thrown("at first", STATE, x::cut);
        x.circuit(0, 1, -1, 2, 1, false);
        for (int i = 1; i <= 10; i++) {
            due("order", x.order(0), i);
        }
        due("ten", x.toCut(), 10);
        due("which are cut", x.cut(), 15);
        due("nothing to cut", x.toCut(), 0);
        thrown("nothing is ordered", STATE, x::cut);
        for (int i = 1; i <= 10; i++) {
            due("order again", x.order(0), i);
        }
        thrown("an eleventh", STATE, () -> x.order(0));
    }

    // The board

    private static void dueRow(String what, Harnessboard x, int choice, int... circuits) {
        due(what, x.laid(choice), circuits.length);
        for (int i = 0; i < circuits.length; i++) {
            due(what + ", place " + i, x.laidAt(choice, i), circuits[i]);
        }
        for (int place : new int[] {-1, circuits.length, LEAST_INT, GREATEST_INT}) {
            thrown(what + ", no place " + place, ELEMENT, () -> x.laidAt(choice, place));
        }
    }

    private static void oneByOne() {
        Harnessboard x = Vehicles.row(3, 1);
        x.option();
        dueRow("an empty board", x, 0);
        int[] row = new int[12];
        for (int i = 0; i < 12; i++) {
            x.circuit(i % 2, i % 2 + 1, -1, 1, 1, false);
            row[i] = i;
        }
        dueRow("a full board", x, 0, row);
        for (int i = 0; i < 11; i++) {
            x.need(i, 1, 0);
        }
        dueRow("one is needed", x, 0, 11);
        dueRow("all by the other choice", x, 1, row);
        x.need(11, 1, 0);
        dueRow("none is needed", x, 0);
        Harnessboard y = Vehicles.withPoints(2);
        y.circuit(0, 1, -1, 1, 1, false);
        dueRow("it cannot be laid", y, 0);
        y.branch(0, 1, 1, true, 1);
        dueRow("it can", y, 0, 0);
    }

    private static void goesAhead() {
        for (int size : new int[] {4, 5, 6}) {
            Harnessboard x = Vehicles.row(3, 5);
            x.circuit(0, 2, -1, 5, 1, false);
            x.circuit(1, 2, -1, size, 1, false);
            dueRow("a short one of size " + size, x, 0, size > 5 ? 1 : 0, size > 5 ? 0 : 1);
            Harnessboard y = Vehicles.row(3, 5);
            y.circuit(1, 2, -1, 5, 1, false);
            y.circuit(0, 2, -1, size, 1, false);
            dueRow("a long one of size " + size, y, 0, size > 5 ? 1 : 0, size > 5 ? 0 : 1);
            Harnessboard z = Vehicles.row(3, 5);
            z.branch(0, 2, 9, false, 99);
            z.circuit(1, 2, -1, 5, 1, false);
            z.circuit(0, 2, -1, size, 1, false);
            dueRow("no branch is shared, by size " + size, z, 0, 1, 0);
        }
        Harnessboard late = Vehicles.withPoints(3);
        late.circuit(0, 2, -1, 5, 1, false);
        late.circuit(1, 2, -1, 6, 1, false);
        late.branch(0, 1, 5, false, 99);
        late.branch(1, 2, 5, false, 99);
        dueRow("a branch told last is shared", late, 0, 1, 0);
        late.branch(0, 2, 9, false, 99);
        dueRow("a branch told last is not shared", late, 0, 0, 1);
    }

    private static void greatestSum() {
        for (int length : new int[] {9, 10, 11}) {
            Harnessboard x = Vehicles.withPoints(4);
            x.branch(0, 1, 10, false, 99);
            x.branch(2, 3, length, false, 99);
            x.circuit(0, 1, -1, 9, 1, false);
            x.circuit(2, 3, -1, 1, 1, false);
            dueRow("two that share nothing, of length " + length, x, 0, length > 10 ? 1 : 0, length > 10 ? 0 : 1);
        }
        Harnessboard x = Vehicles.row(6, 5);
        x.circuit(0, 1, -1, 9, 1, false);
        x.circuit(0, 3, -1, 8, 1, false);
        x.circuit(2, 3, -1, 7, 1, false);
        x.circuit(3, 5, -1, 1, 1, false);
        dueRow("long ones that wait", x, 0, 3, 0, 1, 2);
        x.option();
        x.need(0, 1, 0);
        dueRow("but not for what is not needed", x, 0, 1, 3, 2);
        dueRow("by the other choice", x, 1, 3, 0, 1, 2);
        Harnessboard star = Vehicles.withPoints(6);
        for (int i = 1; i < 4; i++) {
            star.branch(0, i, 4, false, 99);
        }
        star.branch(4, 5, 11, false, 99);
        star.circuit(4, 5, -1, 1, 1, false);
        star.circuit(1, 2, 3, 1, 1, false);
        dueRow("all wires of three ends", star, 0, 1, 0);
    }

    private static void times() {
        Harnessboard x = Vehicles.row(3, 1);
        due("nothing", x.lineTime(0, 1), 0);
        x.circuit(0, 1, -1, 1, 1, false);
        due("one wire", x.lineTime(0, 1), 1 + 3);
        x.circuit(0, 1, 2, 1, 1, false);
        due("and two wires", x.lineTime(0, 1), 4 + 2 + 6);
        Harnessboard far = Vehicles.row(10, 99);
        far.circuit(0, 9, -1, 1, 1, false);
        due("the longest wire", far.lineTime(0, 4), 891 + 3);
        Harnessboard star = Vehicles.withPoints(4);
        for (int i = 1; i < 4; i++) {
            star.branch(0, i, 1, false, 99);
        }
        star.circuit(1, 2, 3, 1, 1, false);
        due("three wires", star.lineTime(0, 2), 3 + 9);
    }

    private static void dueLine(Harnessboard x, int choice, int one, int two, int three, int four) {
        int[] due = {one, two, three, four};
        for (int places = 1; places <= 4; places++) {
            due("on places " + places, x.lineTime(choice, places), due[places - 1]);
        }
        for (int outside : new int[] {0, 5, -1, LEAST_INT, GREATEST_INT}) {
            thrown("on places " + outside, ARGUMENT, () -> x.lineTime(choice, outside));
        }
    }

    private static void lines() {
        Harnessboard x = Vehicles.row(10, 1);
        dueLine(x, 0, 0, 0, 0, 0);
        x.circuit(0, 4, -1, 1, 1, false);
        dueLine(x, 0, 7, 7, 7, 7);
        x.circuit(4, 7, -1, 1, 1, false);
        dueLine(x, 0, 13, 7, 7, 7);
        x.circuit(7, 9, -1, 1, 1, false);
        dueLine(x, 0, 18, 11, 7, 7);
        x.circuit(9, 8, -1, 1, 1, false);
        dueLine(x, 0, 22, 13, 9, 7);
        Harnessboard y = Vehicles.row(10, 2);
        y.circuit(0, 1, -1, 1, 1, false);
        y.circuit(0, 9, -1, 1, 1, false);
        y.circuit(0, 1, -1, 1, 1, false);
        dueRow("the short ones are apart", y, 0, 0, 1, 2);
        dueLine(y, 0, 31, 26, 21, 21);
        Harnessboard full = Vehicles.row(2, 1);
        for (int i = 0; i < 12; i++) {
            full.circuit(0, 1, -1, 1, 1, false);
        }
        dueLine(full, 0, 48, 24, 16, 12);
    }

    // Tests

    private static void eightFaults() {
        Harnessboard x = Vehicles.withCircuits(12);
        for (int i = 1; i <= 8; i++) {
            due("open", x.open(12 - i), i);
        }
        thrown("a ninth that is open", STATE, () -> x.open(0));
        thrown("a ninth that is short", STATE, () -> x.shorted(0, 1));
        due("it is not open", x.leads(0), true);
        due("they are not short", x.touch(0, 1), false);
        due("the eighth is open", x.leads(4), false);
        due("all are taken away", x.mend(), 8);
        for (int i = 1; i <= 8; i++) {
            due("short, also told again", x.shorted(11, i < 8 ? 10 : 0), i);
        }
        thrown("a ninth", STATE, () -> x.shorted(11, 10));
        thrown("a ninth that is open", STATE, () -> x.open(11));
        due("the eighth is short", x.touch(0, 10), true);
        due("all are taken away", x.mend(), 8);
        due("then there are none", x.mend(), 0);
        due("one again", x.open(11), 1);
        thrown("an open one again", UNSUPPORTED, () -> x.open(11));
        due("which is no fault more", x.mend(), 1);
        thrown("the first with itself", ARGUMENT, () -> x.shorted(0, 0));
        thrown("the last with itself", ARGUMENT, () -> x.shorted(11, 11));
    }

    private static void leads() {
        Harnessboard x = Vehicles.withCircuits(12);
        due("the first at first", x.leads(0), true);
        due("the last at first", x.leads(11), true);
        x.open(0);
        x.open(11);
        x.shorted(1, 2);
        due("the first", x.leads(0), false);
        due("the next", x.leads(1), true);
        due("a short one", x.leads(2), true);
        due("the last but one", x.leads(10), true);
        due("the last", x.leads(11), false);
        x.mend();
        due("the first again", x.leads(0), true);
        due("the last again", x.leads(11), true);
    }

    private static void touch() {
        Harnessboard x = Vehicles.withCircuits(12);
        due("the same", x.touch(11, 11), true);
        due("two", x.touch(0, 11), false);
        int[][] pairs = {{5, 6}, {3, 4}, {7, 8}, {1, 2}, {4, 5}, {2, 3}, {6, 7}, {8, 9}};
        for (int[] pair : pairs) {
            due("not yet over others", x.touch(1, 9), false);
            x.shorted(pair[1], pair[0]);
        }
        for (int one = 0; one < 12; one++) {
            for (int other = 0; other < 12; other++) {
                boolean areInChain = one >= 1 && one <= 9 && other >= 1 && other <= 9;
                due("touch " + one + " " + other, x.touch(one, other), areInChain || one == other);
            }
        }
        x.mend();
        due("not any more", x.touch(5, 6), false);
    }

    // Changes

    private static void eightChanges() {
        Harnessboard x = Vehicles.withCircuits(12);
        int[] from = {0, 1, 9998, 9999, 5, 6, 7, 8};
        for (int i = 0; i < 8; i++) {
            due("change", x.change(i + 4, from[i], 9 - i), i + 1);
        }
        thrown("a ninth", STATE, () -> x.change(0, 0, 5));
        due("which is none", x.size(0), 1);
        for (int when : new int[] {0, 1, 4, 5, 9997, 9998, 9999}) {
            x.chassis(when);
            for (int i = 0; i < 8; i++) {
                due("changed from " + from[i] + " on, at " + when, x.size(i + 4), when >= from[i] ? 9 - i : 1);
            }
        }
        Harnessboard y = Vehicles.withCircuits(1);
        for (int outside : new int[] {-1, 10000, LEAST_INT, GREATEST_INT}) {
            thrown("from " + outside, ARGUMENT, () -> y.change(0, outside, 5));
            thrown("chassis " + outside, ARGUMENT, () -> y.chassis(outside));
        }
        for (int outside : new int[] {0, 10, -1, LEAST_INT, GREATEST_INT}) {
            thrown("size " + outside, ARGUMENT, () -> y.change(0, 0, outside));
        }
        due("the first change", y.change(0, 9999, 9), 1);
        due("the chassis at first", y.chassis(9999), 0);
        due("from the greatest on", y.size(0), 9);
    }

    private static void greatestChassis() {
        Harnessboard x = Vehicles.withCircuits(2);
        due("its own", x.size(0), 1);
        x.change(0, 0, 2);
        due("from 0, at 0", x.size(0), 2);
        x.change(0, 100, 3);
        x.change(0, 50, 4);
        x.change(0, 100, 5);
        x.change(0, 99, 6);
        x.change(0, 0, 7);
        int[][] due = {{0, 7}, {1, 7}, {49, 7}, {50, 4}, {51, 4}, {98, 4}, {99, 6}, {100, 5}, {101, 5}, {9999, 5}};
        for (int[] one : due) {
            x.chassis(one[0]);
            due("at " + one[0], x.size(0), one[1]);
            due("without a change, at " + one[0], x.size(1), 1);
        }
        x.chassis(0);
        due("back at 0", x.size(0), 7);
    }

    private static void allBySizes() {
        Harnessboard x = Vehicles.row(3, 9);
        x.option();
        x.circuit(0, 1, -1, 3, 10, false);
        x.circuit(0, 2, -1, 4, 2, true);
        x.need(1, 1, 0);
        x.connector(0, 2, 5, true);
        x.limit(30);
        x.change(0, 7, 6);
        for (int when : new int[] {6, 7}) {
            x.chassis(when);
            int size = when < 7 ? 3 : 6;
            due("size", x.size(0), size);
            due("drop", x.drop(0, 1), 90 / size);
            due("width", x.width(1, 0), size + 4);
            due("loose", x.loose(0), size > 5 ? 1 : 0);
            due("proof", x.proof(0), size > 5 ? 'l' : 'p');
            due("ahead", x.laidAt(1, 0), size > 5 ? 0 : 1);
            due("cost", x.cost(1), 9 * size + 72);
            due("what the option costs", x.costOf(0), 72L);
            long sum = 7;
            for (int choice = 0; choice < 2; choice++) {
                sum = 31 * sum + (size > 5 ? 'l' : 'p');
                sum = 31 * sum + 9 * size + 72 * choice;
            }
            due("checksum", x.checksum(), sum);
        }
    }

    private static void costs() {
        Harnessboard x = Vehicles.row(10, 99);
        x.option();
        due("nothing", x.cost(0), 0);
        for (int i = 1; i <= 12; i++) {
            x.circuit(0, 9, i % 2 == 0 ? -1 : 5, 9, 1, false);
            due("circuits", x.cost(0), 9 * 891 * i);
        }
        x.need(0, 1, 0);
        due("one is not needed", x.cost(0), 9 * 891 * 11);
        due("by the other choice", x.cost(1), 9 * 891 * 12);
        Harnessboard y = Vehicles.withPoints(3);
        y.branch(0, 1, 1, false, 1);
        y.circuit(0, 1, -1, 1, 1, false);
        due("the least", y.cost(0), 1);
        y.circuit(0, 1, 2, 9, 1, false);
        due("one cannot be laid", y.cost(0), 1);
        y.branch(1, 2, 2, false, 1);
        due("now it can", y.cost(0), 1 + 9 * 3);
    }

    private static void costsOfOptions() {
        Harnessboard x = Vehicles.row(10, 99);
        for (int i = 0; i < 8; i++) {
            x.option();
        }
        for (int i = 0; i < 12; i++) {
            x.circuit(0, 9, -1, 9, 1, false);
        }
        long all = 12 * 9 * 891;
        due("no matter", x.costOf(7), 0L);
        for (int i = 0; i < 12; i++) {
            x.need(i, 128, 0);
        }
        due("the most", x.costOf(7), 128 * all);
        due("another one", x.costOf(0), 0L);
        for (int i = 0; i < 12; i++) {
            x.need(i, 0, 1);
        }
        due("the least", x.costOf(0), -128 * all);
        x.rule(1, 0, 'x');
        due("not buildable with it", x.costOf(0), -64 * all);
        x.rule(2, 0, 'f');
        due("not buildable without it", x.costOf(0), -32 * all);
        x.rule(0, 2, 'x');
        due("never with both", x.costOf(0), -32 * all);
        x.rule(0, 2, 'f');
        due("never with it", x.costOf(0), 0L);
        for (int outside : new int[] {-1, 8, 32, LEAST_INT, GREATEST_INT}) {
            thrown("what option " + outside + " costs", INDEX, () -> x.costOf(outside));
        }
    }

    /** The dearest calls on a vehicle that is used as long as one may be. */
    private static void longestUse() {
        Harnessboard x = (Harnessboard) Vehicles.told(new Harnessboard(), Vehicles.full());
        for (int call = Vehicles.full().size(); call < 512; call++) {
            due("call " + call, x.isSound(), true);
        }
        Harnessboard y = new Harnessboard();
        Set<Integer> lengths = new TreeSet<>();
        for (int call = 0; call < 509; call++) {
            due("a kind more", y.stock(9, 999 - call, 20), 20);
            lengths.add(999 - call);
        }
        due("the first of 509 kinds", y.inStock(9, 999), 20);
        due("the last one", y.inStock(9, 491), 20);
        due("none of the next", y.inStock(9, 490), 0);
        due("kinds", lengths.size(), 509);
        Harnessboard z = new Harnessboard();
        for (int call = 1; call <= 511; call++) {
            due("more of a kind", z.stock(1, 3, 20), 20 * call);
        }
        due("all of them", z.inStock(1, 3), 10220);
    }

    private static void trySentencesOfTheNet() {
        sentence("At most 8 are numbered from 0.", TermsTest::atMostEightOptions);
        sentence("A rule is of two unlike options: 'x' they exclude each other, 'f' the first one forces the other "
                + "one; at most 12.", TermsTest::rules);
        sentence("A choice is a set of options, told as bits; it is buildable if all rules hold.",
                TermsTest::allRulesHold);
        sentence("At most 10 points are numbered from 0, and at most 16 branches, each between two unlike points, "
                + "with a length, 1 to 99, wet or dry, and the greatest width that it bears, 1 to 99.",
                TermsTest::branches);
        sentence("A way from one point to another one goes along branches, no point twice.",
                TermsTest::noPointTwice);
        sentence("The least way is that with the least sum of lengths, of like ones that with the fewest branches, "
                + "of like ones that whose points are lower where they first differ, of like ones that whose "
                + "branches are.", TermsTest::leastWay);
        sentence("A circuit that must be dry goes along dry branches alone.", TermsTest::dryBranchesAlone);
        sentence("At most 12 are numbered from 0, each of two or three unlike points, its ends, in an order, with a "
                + "size, 1 to 9, amperes, 0 to 99, whether it must be dry, and two sets of options: a choice needs "
                + "the circuit if it has all options of the first set, and none of the second one.",
                TermsTest::circuits);
        sentence("A circuit of two ends has a wire along the least way from the first to the second end.",
                TermsTest::fromFirstToSecondEnd);
        sentence("One of three ends is joined at a splice: the point to which the sum of lengths of the least ways "
                + "from the ends is least, of like ones the lowest; from each end that is not the splice itself a "
                + "wire goes to it along the least way.", TermsTest::splices);
        sentence("A circuit can be laid if there are such ways.", TermsTest::canBeLaid);
        sentence("By a choice, the width of a branch is the sum of the sizes of wires that go through it, two of one "
                + "circuit counted twice, of circuits that it needs and that can be laid.", TermsTest::widths);
        sentence("The drop of a circuit that can be laid, at its second or third end, is the amperes times the sum of "
                + "lengths from the first end to that one, by its wires, divided by the size, cut.",
                TermsTest::drops);
    }

    private static void trySentencesOfProofs() {
        sentence("At most 6 are numbered from 0, each at a point, with 1 to 9 cavities, numbered from 0, for sizes up "
                + "to one, 1 to 9, and sealed or not.", TermsTest::connectors);
        sentence("By a choice, at each point where connectors are, the circuits that it needs with an end there, also "
                + "those that cannot be laid, take a cavity each, by rising numbers: the lowest free one of the "
                + "lowest connector there that has a free one, is for such a size, and is sealed, unless the "
                + "circuit must be dry.", TermsTest::cavities);
        sentence("A circuit that finds none is loose there.", TermsTest::looseEnds);
        sentence("What is free of a sealed connector is plugged.", TermsTest::plugged);
        sentence("A choice is told by the first letter that holds: 'b' it is not buildable, 'n' a circuit that it "
                + "needs cannot be laid, 'w' a branch has more width than it bears, 'l' a circuit is loose, 'd' a "
                + "drop of a circuit that it needs is above the limit, 9999 at first; otherwise 'p' it is proved.",
                TermsTest::proofs);
        sentence("A module is a set of circuits, told as bits; at most 6.", TermsTest::sixModules);
        sentence("A choice is built of a set of modules that have together just the circuits that it needs, none in "
                + "two of them; of several sets that of the fewest modules, of like ones that with the lowest "
                + "bits.", TermsTest::setsOfModules);
    }

    private static void trySentencesOfTheMachine() {
        sentence("Vehicles are ordered, at most 10, each a choice at the chassis that is told then.",
                TermsTest::tenOrders);
        sentence("A wire is cut to the sum of lengths of its way, and 2 more.", TermsTest::twoMore);
        sentence("Old stock are wires of a size and a length.", TermsTest::kindsOfStock);
        sentence("To cut takes all wires of the vehicles ordered, of circuits that they need by then and that can be "
                + "laid, by the sizes at their chassis: those that are in stock, of just this size and length, come "
                + "from there; the others are cut by rising sizes, of one size by falling lengths, at the cost of 5 "
                + "whenever the size is another one than ahead, also at first, 1 whenever the length alone is "
                + "another one, and 1 for each wire.", TermsTest::cutting);
        sentence("Then nothing is ordered.", TermsTest::thenNothing);
        sentence("By a choice, the circuits that it needs and that can be laid are laid one by one.",
                TermsTest::oneByOne);
        sentence("Of two that share a branch the one with the greater size goes ahead, of like sizes the lower "
                + "number.", TermsTest::goesAhead);
        sentence("Ever again, of those that none goes ahead of that is not laid, the one with the greatest sum of "
                + "lengths of its wires is laid, of like ones the lowest.", TermsTest::greatestSum);
        sentence("The time of a circuit is this sum, and 3 for each wire.", TermsTest::times);
        sentence("On a line of 1 to 4 places, the circuits in this order are parted into rows that follow each other, "
                + "one for each place, perhaps empty, so that the greatest sum of times of a place is least.",
                TermsTest::lines);
    }

    private static void trySentencesOfChanges() {
        sentence("At most 8 faults are told: a circuit is open, or two unlike ones are short, also told again.",
                TermsTest::eightFaults);
        sentence("A circuit leads if it is not open.", TermsTest::leads);
        sentence("Two touch if they are short, also over others.", TermsTest::touch);
        sentence("At most 8 are told: from a chassis on, 0 to 9999, a circuit has another size.",
                TermsTest::eightChanges);
        sentence("A circuit has the size of the change with the greatest chassis that is at most the chassis that is "
                + "told, 0 at first, of like ones the last one; without one its own.", TermsTest::greatestChassis);
        sentence("All that is told of sizes is by that.", TermsTest::allBySizes);
        sentence("The cost of a choice is the sum of size times length, without the 2 more, of all wires of circuits "
                + "that it needs and that can be laid.", TermsTest::costs);
        sentence("What an option costs is the sum, over all buildable choices without it that are buildable with it, "
                + "too, of the cost with it less that without.", TermsTest::costsOfOptions);
    }

    public static void main(String[] args) {
        within(Document.terms());
        trySentencesOfTheNet();
        trySentencesOfProofs();
        trySentencesOfTheMachine();
        trySentencesOfChanges();
        List<String> headings = new ArrayList<>(List.of("Options.", "Branches.", "Circuits.", "Connectors.",
                "Proofs.", "Cutting.", "The board.", "Tests.", "Changes.", "Exceptions."));
        String left = untried(Document.terms()).replace(LEFT_TO_REFUSED_TEST, "");
        for (String heading : headings) {
            left = left.replaceFirst(heading.replace(".", "\\."), "");
        }
        due("sentences without a test", left.strip().replaceAll("\\s+", " "), "");
        within(Document.purpose());
        sentence("An object is used for at most 512 calls after it has been made; what later calls answer is free.",
                TermsTest::longestUse);
        end();
    }
}
