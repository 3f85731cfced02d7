/** Promises 29 to 33, and the terms of cuts and walks: each sentence that names a boundary, inside it and outside. */
public final class EdgesOfCutsTest {
    private static final int[] NO_NUMBERS = {Integer.MIN_VALUE, -2, -1, 12, 24, Integer.MAX_VALUE};

    private final Check check = new Check("EdgesOfCutsTest");

    public static void main(String[] args) {
        EdgesOfCutsTest test = new EdgesOfCutsTest();
        test.noSuchCut();
        test.lastCut();
        test.linkedWithEachOther();
        test.notLinked();
        test.stepsWithoutLinks();
        test.fourRootsCome();
        test.cutsComeLast();
        test.cutsInOrder();
        test.stepOfAtoms();
        test.normalOfNothing();
        test.normalOfMost();
        test.normalOfManyAtoms();
        test.normalRefused();
        test.shortestWalk();
        test.longestWalk();
        test.walkAcrossParts();
        test.walkOfCutRoot();
        test.walkToOpenLeaf();
        test.walkFromGone();
        test.check.close();
    }

    private static Check.Recipe net(String roots, int... links) {
        return () -> Houses.linking(Houses.withRoots(roots.split(" ")), links);
    }

    private static Check.Recipe cutting(Check.Recipe recipe, int... roots) {
        return () -> {
            Sidelessly house = recipe.make();
            for (int index = 0; index + 1 < roots.length; index += 2) {
                house.cut(roots[index], roots[index + 1]);
            }
            return house;
        };
    }

    private static String answers(Check.Call call) {
        return Check.answerOf(call).toString();
    }

    /** The formulas of all roots that are left, each one behind its number. */
    private static String roots(Sidelessly house) {
        StringBuilder text = new StringBuilder();
        for (int root = 0; root < 48; root++) {
            int one = root;
            Object formula = Check.answerOf(() -> house.rootAt(one));
            if (formula instanceof Integer) {
                text.append(text.length() == 0 ? "" : " ").append(root).append(':').append(formula);
            }
        }
        return text.toString();
    }

    private void noSuchCut() {
        check.sentence("step: the cut, from 0; IndexOutOfBoundsException if there is no such cut");
        for (int bad : NO_NUMBERS) {
            check.refuses("of none, " + bad, Check.INDEX, Sidelessly::new, house -> house.step(bad));
            check.refuses("of one, " + bad, Check.INDEX, cutting(net("a A a A", 0, 1, 2, 3), 1, 2),
                    house -> house.step(bad));
            check.refuses("of eleven, " + bad, Check.INDEX, Houses::full, house -> house.step(bad));
        }
        check.refuses("the first one of none", Check.INDEX, net("a A", 0, 1), house -> house.step(0));
        check.refuses("the second one of one", Check.INDEX, cutting(net("a A a A", 0, 1, 2, 3), 1, 2),
                house -> house.step(1));
        check.refuses("the twelfth one of eleven", Check.INDEX, Houses::full, house -> house.step(11));
        check.refuses("the first one of none left", Check.INDEX, () -> {
            Sidelessly house = cutting(net("a A a A", 0, 1, 2, 3), 1, 2).make();
            house.step(0);
            return house;
        }, house -> house.step(0));
    }

    private void lastCut() {
        check.sentence("step: the cut, from 0");
        check.same("the first one of eleven", 'a', Houses.full().step(0));
        Sidelessly house = Houses.full();
        check.same("the last one of eleven", 'a', house.step(10));
        check.same("ten are left", 10, house.cuts());
        check.same("its roots are gone", 22, house.roots());
        check.same("leaf 20 is linked through", 23, house.linked(20));
        Sidelessly joins = withElevenCuts();
        check.same("a join, the last one of eleven", 'b', joins.step(10));
        check.same("twelve are there", 12, joins.cuts());
        check.same("the last one of twelve is there", "throws UnsupportedOperationException",
                answers(() -> joins.step(11)));
        check.same("a thirteenth one is not", "throws IndexOutOfBoundsException", answers(() -> joins.step(12)));
    }

    /** Ten cuts of atoms that are not linked, and then one of a times and a par. */
    private static Sidelessly withElevenCuts() {
        Sidelessly house = Houses.withRoots("(a*a)", "(A|A)");
        for (int pair = 1; pair <= 10; pair++) {
            Houses.placeAll(house, "a", "A");
            house.cut(2 * pair, 2 * pair + 1);
        }
        house.cut(0, 1);
        return house;
    }

    private void linkedWithEachOther() {
        check.sentence("A step of two atoms that are linked with each other, or of which one is not linked, is "
                + "refused.");
        check.refuses("linked with each other", Check.UNSUPPORTED, cutting(net("a A", 0, 1), 0, 1),
                house -> house.step(0));
        check.refuses("cut the other way round", Check.UNSUPPORTED, cutting(net("a A", 0, 1), 1, 0),
                house -> house.step(0));
        check.refuses("the same beside others", Check.UNSUPPORTED,
                cutting(net("a A a A b B", 0, 1, 2, 3, 4, 5), 1, 2, 4, 5), house -> house.step(1));
        check.same("the others are not refused", 'a',
                cutting(net("a A a A b B", 0, 1, 2, 3, 4, 5), 1, 2, 4, 5).make().step(0));
        Sidelessly ring = cutting(net("a A a A", 0, 1, 2, 3), 1, 2, 3, 0).make();
        check.same("two cuts in a ring, a step of the first one", 'a', ring.step(0));
        check.same("then the other one is of atoms linked with each other", "throws UnsupportedOperationException",
                answers(() -> ring.step(0)));
        check.same("linked by the step", 3, ring.linked(0));
    }

    private void notLinked() {
        check.sentence("A step of two atoms .. of which one is not linked, is refused.");
        check.refuses("neither", Check.UNSUPPORTED, cutting(net("a A a A"), 1, 2), house -> house.step(0));
        check.refuses("the first one alone", Check.UNSUPPORTED, cutting(net("a A a A", 0, 1), 1, 2),
                house -> house.step(0));
        check.refuses("the second one alone", Check.UNSUPPORTED, cutting(net("a A a A", 2, 3), 1, 2),
                house -> house.step(0));
        check.refuses("the first one alone, told last", Check.UNSUPPORTED, cutting(net("a A a A", 0, 1), 2, 1),
                house -> house.step(0));
        check.same("both", 'a', cutting(net("a A a A", 0, 1, 2, 3), 1, 2).make().step(0));
        check.same("both, told in turn", 'a', cutting(net("a A a A", 0, 1, 2, 3), 2, 1).make().step(0));
    }

    private void stepsWithoutLinks() {
        check.sentence("of a times and a par, whose first parts .. are cut with each other, .. 'b'");
        check.same("without links", 'b', cutting(net("(a*b) (A|B)"), 0, 1).make().step(0));
        check.same("the par told first", 'b', cutting(net("(a*b) (A|B)"), 1, 0).make().step(0));
        check.same("linked with each other", 'b', cutting(net("(a*b) (A|B)", 0, 2, 1, 3), 0, 1).make().step(0));
        Sidelessly linked = cutting(net("(a*b) (A|B)", 0, 2, 1, 3), 0, 1).make();
        linked.step(0);
        check.same("links stay", 2, linked.linked(0));
        check.same("the first parts are refused", "throws UnsupportedOperationException",
                answers(() -> linked.step(0)));
        check.same("so are the second ones", "throws UnsupportedOperationException", answers(() -> linked.step(1)));
        check.same("there is no third cut", "throws IndexOutOfBoundsException", answers(() -> linked.step(2)));
    }

    private void fourRootsCome() {
        check.sentence("four roots come: the first part of the root told first in the cut, the first part of the other "
                + "one, and then both second parts likewise");
        Sidelessly house = cutting(net("((a*b)*c) ((A|B)|C)"), 0, 1).make();
        check.same("roots ahead", "0:4 1:9", roots(house));
        house.step(0);
        check.same("roots behind it", "2:2 3:7 4:3 5:8", roots(house));
        check.same("four roots", 4, house.roots());
        Sidelessly turned = cutting(net("((a*b)*c) ((A|B)|C)"), 1, 0).make();
        turned.step(0);
        check.same("the other one told first", "2:7 3:2 4:8 5:3", roots(turned));
        check.same("the roots 2 and 3 are cut", "throws UnsupportedOperationException",
                answers(() -> turned.cut(2, 3)));
        check.same("the roots 4 and 5 are cut", "throws UnsupportedOperationException",
                answers(() -> turned.cut(5, 4)));
        check.same("leaves keep their numbers", 1, turned.link(2, 5));
        check.same("none came or went", 6, turned.clear());
    }

    private void cutsComeLast() {
        check.sentence("the two new cuts come last, that of the first parts ahead");
        Sidelessly house = cutting(net("((a*b)*(c*c)) ((A|B)|(C|C)) (d*d) (D|D)"), 0, 1, 2, 3).make();
        check.same("step", 'b', house.step(0));
        check.same("three cuts", 3, house.cuts());
        check.same("its parts came", "2 3 4 5 6 7", numbers(house));
        check.same("the old one is the first one", 'b', house.step(0));
        check.same("its parts came last", "4 5 6 7 8 9 10 11", numbers(house));
        check.same("the first parts are the first ones now", 'b', house.step(0));
        check.same("their parts came", "6 7 8 9 10 11 12 13 14 15", numbers(house));
        check.same("the second parts are the first ones now", 'b', house.step(0));
        check.same("all are atoms", "8 9 10 11 12 13 14 15 16 17 18 19", numbers(house));
        check.same("six cuts of atoms", 6, house.cuts());
        for (int cut = 0; cut < 6; cut++) {
            int one = cut;
            check.same("refused", "throws UnsupportedOperationException", answers(() -> house.step(one)));
        }
    }

    private static String numbers(Sidelessly house) {
        return roots(house).replaceAll(":\\d+", "");
    }

    private void cutsInOrder() {
        check.sentence("They go in the order in which they were made.");
        int[][] orders = {{0, 1, 2}, {0, 2, 1}, {1, 0, 2}, {1, 2, 0}, {2, 0, 1}, {2, 1, 0}};
        for (int[] order : orders) {
            for (int cut = 0; cut < 3; cut++) {
                Sidelessly house = net("a A a A a A a A", 0, 1, 2, 3, 4, 5, 6, 7).make();
                for (int pair : order) {
                    house.cut(2 * pair + 1, 2 * pair + 2);
                }
                house.step(cut);
                int gone = 2 * order[cut] + 1;
                check.same("the cut that goes", "throws IndexOutOfBoundsException", answers(() -> house.rootAt(gone)));
                check.same("its leaves are linked through", gone + 2, house.linked(gone - 1));
                check.same("six roots are left", 6, house.roots());
                int next = 2 * order[cut == 0 ? 1 : 0] + 1;
                house.step(0);
                check.same("then the first one of the others", "throws IndexOutOfBoundsException",
                        answers(() -> house.rootAt(next)));
            }
        }
    }

    private void stepOfAtoms() {
        check.sentence("A step takes one away: of two atoms, whose linked leaves are linked with each other then, 'a'");
        Sidelessly house = cutting(net("a A a A", 0, 1, 2, 3), 1, 2).make();
        check.same("step", 'a', house.step(0));
        check.same("linked", 3, house.linked(0));
        check.same("linked back", 0, house.linked(3));
        check.same("no cut", 0, house.cuts());
        check.same("two roots", 2, house.roots());
        check.same("all leaves are linked", 1.0f, house.linkShare());
        check.same("leaf 1 is gone", "throws IndexOutOfBoundsException", answers(() -> house.linked(1)));
        check.same("leaf 2 is gone", "throws IndexOutOfBoundsException", answers(() -> house.linked(2)));
        check.same("root 3 is a conclusion", 0, house.walk(3));
    }

    private void normalOfNothing() {
        check.sentence("A normal form comes by steps of the first cut, as long as there is one.");
        check.tells("nothing", 0, Sidelessly::new, house -> house.normal());
        check.tells("no cut", 0, net("a A", 0, 1), house -> house.normal());
        check.tells("no cut, and open leaves", 0, net("(a*b) (A|B)", 0, 2), house -> house.normal());
        check.same("one cut", 1, cutting(net("a A a A", 0, 1, 2, 3), 1, 2).make().normal());
    }

    /** A chain of 11 pars is cut with its dual; one token walks through all its atoms. */
    private static Sidelessly withLongestWalk() {
        Sidelessly house = Houses.withChain(true, 11);
        house.place(11);
        house.place(house.dual(11));
        house.place(0);
        house.place(1);
        house.cut(0, 1);
        house.link(23, 0);
        for (int leaf = 1; leaf < 11; leaf++) {
            house.link(10 + leaf, leaf);
        }
        house.link(21, 22);
        return house;
    }

    private void normalOfMost() {
        check.sentence("normal: Returns how many steps it took.");
        Sidelessly house = withLongestWalk();
        check.same("ten joins and eleven pairs of atoms", 21, house.normal());
        check.same("no cut is left", 0, house.cuts());
        check.same("two roots are left", "2:0 3:1", roots(house));
        check.same("linked with each other", 22, house.linked(23));
        check.same("the next root", "throws IllegalStateException", answers(() -> house.place(0)));
        check.same("nothing is left to do", 0, house.normal());
    }

    private void normalOfManyAtoms() {
        check.sentence("normal: Returns how many steps it took.");
        Sidelessly house = Houses.full();
        check.same("eleven pairs of atoms", 11, house.normal());
        check.same("both ends", 23, house.linked(0));
        check.same("two roots", "0:0 23:1", roots(house));
        check.same("a proof", true, house.byTrips());
    }

    private void normalRefused() {
        check.sentence("Throws UnsupportedOperationException if a step is refused; and changes nothing");
        check.refuses("at once, linked with each other", Check.UNSUPPORTED, cutting(net("a A", 0, 1), 0, 1),
                house -> house.normal());
        check.refuses("at once, not linked", Check.UNSUPPORTED, cutting(net("a A a A", 0, 1), 1, 2),
                house -> house.normal());
        check.refuses("behind ten steps", Check.UNSUPPORTED, () -> {
            Sidelessly house = Houses.full();
            house.unlink(23);
            return house;
        }, house -> house.normal());
        check.refuses("behind a step of joins", Check.UNSUPPORTED, cutting(net("(a*b) (A|B)", 0, 2, 1, 3), 0, 1),
                house -> house.normal());
        check.refuses("behind twenty steps", Check.UNSUPPORTED, () -> {
            Sidelessly house = withLongestWalk();
            house.unlink(22);
            return house;
        }, house -> house.normal());
        check.refuses("a ring of two cuts", Check.UNSUPPORTED, cutting(net("a A a A", 0, 1, 2, 3), 1, 2, 3, 0),
                house -> house.normal());
    }

    private void shortestWalk() {
        check.sentence("A token at a leaf of a conclusion goes to its linked leaf; it ends at a leaf of a conclusion");
        check.tells("walk", 1, net("a A", 0, 1), house -> house.walk(0));
        check.tells("walk back", 0, net("a A", 0, 1), house -> house.walk(1));
        check.tells("the fewest links", 1, net("a A", 0, 1), house -> house.passes(0));
        check.tells("within one root", 1, net("(a|A)", 0, 1), house -> house.passes(1));
        check.tells("two links", 2, cutting(net("a A a A", 0, 1, 2, 3), 1, 2), house -> house.passes(0));
        check.tells("past other cuts", 1, cutting(net("a A a A b B", 0, 1, 2, 3, 4, 5), 1, 2),
                house -> house.passes(4));
    }

    private void longestWalk() {
        check.sentence("passes: Returns how many links a token passes.");
        check.tells("through eleven cuts", 12, Houses::full, house -> house.passes(0));
        check.tells("back", 12, Houses::full, house -> house.passes(23));
        check.tells("to the last leaf", 23, Houses::full, house -> house.walk(0));
        check.tells("to the first leaf", 0, Houses::full, house -> house.walk(23));
        check.tells("through one cut, eleven times", 12, EdgesOfCutsTest::withLongestWalk, house -> house.passes(22));
        check.tells("to the end of it", 23, EdgesOfCutsTest::withLongestWalk, house -> house.walk(22));
        Sidelessly house = Houses.full();
        for (int left = 12; left > 1; left--) {
            check.same("a step spares a link", left, house.passes(0));
            house.step(left % house.cuts());
        }
        check.same("one link is left", 1, house.passes(0));
    }

    private void walkAcrossParts() {
        check.sentence("from a leaf of a root that is cut it goes on to the leaf of the other root at the same place "
                + "among its leaves");
        Check.Recipe wide = cutting(net("((a*b)*(c*d)) ((A|B)|(C|D)) A B C D a b c d",
                0, 8, 1, 9, 2, 10, 3, 11, 4, 12, 5, 13, 6, 14, 7, 15), 0, 1);
        for (int leaf = 8; leaf < 12; leaf++) {
            int one = leaf;
            check.tells("from " + leaf, leaf + 4, wide, house -> house.walk(one));
            check.tells("to " + leaf, leaf, wide, house -> house.walk(one + 4));
        }
        check.tells("behind a step", 13, () -> {
            Sidelessly house = wide.make();
            house.step(0);
            return house;
        }, house -> house.walk(9));
    }

    private void walkOfCutRoot() {
        check.sentence("Throws UnsupportedOperationException if it is of a root that is cut");
        for (int leaf = 1; leaf < 23; leaf += 7) {
            int one = leaf;
            check.refuses("walk from " + leaf, Check.UNSUPPORTED, Houses::full, house -> house.walk(one));
            check.refuses("passes from " + leaf, Check.UNSUPPORTED, Houses::full, house -> house.passes(one));
        }
        check.refuses("the last leaf of a cut", Check.UNSUPPORTED, Houses::full, house -> house.walk(22));
        check.refuses("a cut and linked with each other", Check.UNSUPPORTED, cutting(net("a A", 0, 1), 0, 1),
                house -> house.walk(0));
        check.refuses("a cut and not linked", Check.UNSUPPORTED, cutting(net("a A"), 0, 1), house -> house.passes(1));
    }

    private void walkToOpenLeaf() {
        check.sentence("or the token comes to a leaf that is not linked");
        check.refuses("it starts there", Check.UNSUPPORTED, net("a A"), house -> house.walk(0));
        check.refuses("it starts there, passes", Check.UNSUPPORTED, net("a A"), house -> house.passes(1));
        for (int open = 0; open < 24; open += 2) {
            int unlinked = open;
            Check.Recipe recipe = () -> {
                Sidelessly house = Houses.full();
                house.unlink(unlinked);
                return house;
            };
            check.refuses("walk with leaf " + open + " open", Check.UNSUPPORTED, recipe, house -> house.walk(0));
            check.refuses("walk back with leaf " + open + " open", Check.UNSUPPORTED, recipe, house -> house.walk(23));
            check.refuses("passes with leaf " + open + " open", Check.UNSUPPORTED, recipe, house -> house.passes(0));
        }
        check.tells("another open leaf matters not", 1, net("a A b", 0, 1), house -> house.walk(0));
    }

    private void walkFromGone() {
        check.sentence("Throws IndexOutOfBoundsException if there is no such leaf any more");
        Check.Recipe gone = () -> {
            Sidelessly house = Houses.full();
            house.normal();
            return house;
        };
        for (int leaf : new int[] {-1, 1, 11, 22, 24}) {
            check.refuses("walk from " + leaf, Check.INDEX, gone, house -> house.walk(leaf));
            check.refuses("passes from " + leaf, Check.INDEX, gone, house -> house.passes(leaf));
        }
        check.tells("walk from a leaf that is left", 23, gone, house -> house.walk(0));
        check.tells("passes from a leaf that is left", 1, gone, house -> house.passes(23));
    }
}
