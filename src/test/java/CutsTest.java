/** Promises 29 to 33: cuts, steps, the normal form, and walks. */
public final class CutsTest {
    private static final int[] BAD = {-1, 24, 1000, Integer.MIN_VALUE, Integer.MAX_VALUE};

    private final Check check = new Check("CutsTest");

    public static void main(String[] args) {
        CutsTest test = new CutsTest();
        test.stepsOfAtoms();
        test.stepsOfJoins();
        test.stepsOfLargeJoins();
        test.stepsRefused();
        test.stepsInAnyOrder();
        test.normalForms();
        test.normalFormsRefused();
        test.walks();
        test.walksRefused();
        test.check.close();
    }

    /** Roots a A a A a A, the links 0-1, 2-3 and 4-5, and the cuts 1-2 and 4-3, so that 4 is told first. */
    private static Sidelessly withTwoCuts() {
        Sidelessly house = Houses.linking(Houses.withRoots("a", "A", "a", "A", "a", "A"), 0, 1, 2, 3, 4, 5);
        house.cut(1, 2);
        house.cut(4, 3);
        return house;
    }

    /** Roots (A|B) (a*b) (A|B) (a*b) with links 0-2, 1-3, 4-6 and 5-7, and the cut 2-1. */
    private static Sidelessly withJoinsCut() {
        Sidelessly house = Houses.withRoots("(A|B)", "(a*b)", "(A|B)", "(a*b)");
        Houses.linking(house, 0, 2, 1, 3, 4, 6, 5, 7);
        house.cut(2, 1);
        return house;
    }

    private static String answers(Check.Call... calls) {
        StringBuilder text = new StringBuilder();
        for (Check.Call call : calls) {
            String answer = Check.answerOf(call).toString();
            text.append(answer.startsWith("throws") ? "-" : answer).append(' ');
        }
        return text.toString().trim();
    }

    private static String links(Sidelessly house) {
        StringBuilder text = new StringBuilder();
        for (int leaf = 0; leaf < 24; leaf++) {
            int one = leaf;
            text.append(answers(() -> house.linked(one))).append(' ');
        }
        return text.toString().replaceAll("( -)*\\s*$", "");
    }

    private static String roots(Sidelessly house) {
        StringBuilder text = new StringBuilder();
        for (int root = 0; root < 48; root++) {
            int one = root;
            text.append(answers(() -> house.rootAt(one))).append(' ');
        }
        return text.toString().replaceAll("( -)*\\s*$", "");
    }

    private void stepsOfAtoms() {
        Sidelessly house = withTwoCuts();
        check.same("cuts", 2, house.cuts());
        check.same("links ahead", "1 0 3 2 5 4", links(house));
        check.same("the step of the first cut", 'a', house.step(0));
        check.same("links behind it", "3 - - 0 5 4", links(house));
        check.same("roots behind it", "0 - - 1 0 1", roots(house));
        check.same("a cut is left", 1, house.cuts());
        check.same("the step of the other one", 'a', house.step(0));
        check.same("links behind both", "5 - - - - 0", links(house));
        check.same("roots behind both", "0 - - - - 1", roots(house));
        check.same("no cut is left", 0, house.cuts());
        Sidelessly second = withTwoCuts();
        check.same("the step of the second cut", 'a', second.step(1));
        check.same("links behind that", "1 0 5 - - 2", links(second));
        check.same("roots behind that", "0 1 0 - - 1", roots(second));
        check.same("the first one is left", "a 5 - - - - 0", second.step(0) + " " + links(second));
    }

    private void stepsOfJoins() {
        Sidelessly house = withJoinsCut();
        check.same("the step", 'b', house.step(0));
        check.same("links stay", "2 3 0 1 6 7 4 5", links(house));
        check.same("four roots come", 6, house.roots());
        check.same("parts of the root told first go first", "2 - - 5 0 3 1 4", roots(house));
        check.same("two cuts", 2, house.cuts());
        check.same("the cut of the first parts is ahead", 'a', house.step(0));
        check.same("leaves of it are gone", "6 3 - 1 - 7 0 5", links(house));
        check.same("roots of it are gone", "2 - - 5 - - 1 4", roots(house));
        check.same("the cut of the second parts", 'a', house.step(0));
        check.same("all is linked through", "6 7 - - - - 0 1", links(house));
        check.same("conclusions are left", "2 - - 5", roots(house));
        check.same("no cut is left", 0, house.cuts());
    }

    /** The cut of the atoms is the first one; the parts of the joins have two leaves and one. */
    private void stepsOfLargeJoins() {
        Sidelessly house = Houses.withRoots("((a|b)*c)", "((A*B)|C)", "d", "D");
        house.cut(2, 3);
        house.cut(0, 1);
        check.same("the step of the second cut", 'b', house.step(1));
        check.same("the old cut is ahead still", 3, house.cuts());
        check.same("roots", "- - 10 11 2 7 3 8", roots(house));
        check.same("leaves keep their numbers", 1, house.link(2, 5));
        check.same("the cut of the first parts stands behind the old one", 'b', house.step(1));
        check.same("roots", "- - 10 11 - - 3 8 0 5 1 6", roots(house));
        check.same("leaves keep their numbers", 2, house.link(0, 3));
        check.same("four cuts", 4, house.cuts());
        check.same("the old one, the second parts, the parts of the first ones", "- - - - -", answers(
                () -> house.step(0), () -> house.step(1), () -> house.step(2), () -> house.step(3),
                () -> house.step(4)));
        house.unlink(2);
        Houses.placeAll(house, "C", "c");
        Houses.linking(house, 2, 8, 5, 9);
        check.same("the cut of the second parts is the second one", 'a', house.step(1));
        check.same("a link through", 9, house.linked(8));
    }

    private void stepsRefused() {
        for (int bad : BAD) {
            check.refuses("step " + bad, Check.INDEX, CutsTest::withTwoCuts, house -> house.step(bad));
        }
        check.refuses("one cut too far", Check.INDEX, CutsTest::withTwoCuts, house -> house.step(2));
        check.refuses("no cut", Check.INDEX, Sidelessly::new, house -> house.step(0));
        check.refuses("linked with each other", Check.UNSUPPORTED, () -> {
            Sidelessly house = Houses.linking(Houses.withRoots("a", "A"), 0, 1);
            house.cut(0, 1);
            return house;
        }, house -> house.step(0));
        for (int unlinked = 0; unlinked < 3; unlinked++) {
            int leaf = unlinked;
            check.refuses("a leaf not linked, " + leaf, Check.UNSUPPORTED, () -> {
                Sidelessly house = Houses.withRoots("A", "a", "A", "a");
                house.cut(1, 2);
                if (leaf > 0) {
                    Houses.linking(house, leaf == 1 ? 0 : 2, leaf == 1 ? 1 : 3);
                }
                return house;
            }, house -> house.step(0));
        }
        Sidelessly open = Houses.withRoots("(a*b)", "(A|B)");
        open.cut(0, 1);
        check.same("joins without links", 'b', open.step(0));
        Sidelessly ring = Houses.linking(Houses.withRoots("(a*b)", "(A|B)"), 0, 2, 1, 3);
        ring.cut(0, 1);
        check.same("joins linked with each other", 'b', ring.step(0));
        check.same("their parts are refused", "- -", answers(() -> ring.step(0), () -> ring.step(1)));
    }

    private void stepsInAnyOrder() {
        int[][] orders = {{0, 0, 0}, {0, 1, 0}};
        for (int[] order : orders) {
            Sidelessly house = withJoinsCut();
            for (int cut : order) {
                house.step(cut);
            }
            check.same("the links in the end", "6 7 - - - - 0 1", links(house));
        }
    }

    private void normalForms() {
        check.tells("nothing to do", 0, () -> Houses.linking(Houses.withRoots("a", "A"), 0, 1),
                house -> house.normal());
        check.tells("nothing there", 0, Sidelessly::new, house -> house.normal());
        Sidelessly atoms = withTwoCuts();
        check.same("two steps", 2, atoms.normal());
        check.same("links", "5 - - - - 0", links(atoms));
        check.same("no cuts", 0, atoms.cuts());
        Sidelessly joins = withJoinsCut();
        check.same("three steps", 3, joins.normal());
        check.same("links", "6 7 - - - - 0 1", links(joins));
        check.same("roots", "2 - - 5", roots(joins));
        check.same("numbers go on behind all that came", 8, joins.place(0));
        check.same("no step is left", 0, joins.normal());
        check.same("an open leaf elsewhere matters not", 2, withOpenLeaf().normal());
        Sidelessly deep = new Sidelessly();
        Houses.placeAll(deep, "((a*b)*(c*d))", "((A|B)|(C|D))", "A", "B", "C", "D", "a", "b", "c", "d");
        Houses.linking(deep, 0, 8, 1, 9, 2, 10, 3, 11, 4, 12, 5, 13, 6, 14, 7, 15);
        deep.cut(0, 1);
        check.same("seven steps", 7, deep.normal());
        check.same("links", "- - - - - - - - 12 13 14 15 8 9 10 11", links(deep));
    }

    private static Sidelessly withOpenLeaf() {
        Sidelessly house = withTwoCuts();
        Houses.placeAll(house, "b");
        return house;
    }

    private void normalFormsRefused() {
        check.refuses("a ring", Check.UNSUPPORTED, () -> {
            Sidelessly house = Houses.linking(Houses.withRoots("a", "A"), 0, 1);
            house.cut(0, 1);
            return house;
        }, house -> house.normal());
        check.refuses("a ring behind other steps", Check.UNSUPPORTED, () -> {
            Sidelessly house = withTwoCuts();
            Houses.placeAll(house, "(a*b)", "(A|B)");
            Houses.linking(house, 6, 8, 7, 9);
            house.cut(6, 7);
            return house;
        }, house -> house.normal());
        check.refuses("a leaf that is not linked", Check.UNSUPPORTED, () -> {
            Sidelessly house = withJoinsCut();
            house.unlink(5);
            return house;
        }, house -> house.normal());
    }

    private void walks() {
        check.tells("a walk through two cuts", 5, CutsTest::withTwoCuts, house -> house.walk(0));
        check.tells("back", 0, CutsTest::withTwoCuts, house -> house.walk(5));
        check.tells("it passes three links", 3, CutsTest::withTwoCuts, house -> house.passes(0));
        check.tells("back as well", 3, CutsTest::withTwoCuts, house -> house.passes(5));
        check.tells("to the second part", 7, CutsTest::withJoinsCut, house -> house.walk(1));
        check.tells("to the first part", 6, CutsTest::withJoinsCut, house -> house.walk(0));
        check.tells("from the first part", 0, CutsTest::withJoinsCut, house -> house.walk(6));
        check.tells("two links", 2, CutsTest::withJoinsCut, house -> house.passes(7));
        check.tells("without cuts", 1, () -> Houses.linking(Houses.withRoots("(a|A)"), 0, 1), house -> house.walk(0));
        check.tells("one link", 1, () -> Houses.linking(Houses.withRoots("(a|A)"), 0, 1), house -> house.passes(1));
        Sidelessly stepped = withTwoCuts();
        stepped.step(1);
        check.same("a step spares a link", 2, stepped.passes(0));
        check.same("to the same end", 5, stepped.walk(0));
        Sidelessly twice = Houses.withRoots("(a*A)", "(A|a)", "A", "a");
        Houses.linking(twice, 0, 4, 2, 3, 1, 5);
        twice.cut(0, 1);
        check.same("through both leaves of one cut", 5, twice.walk(4));
        check.same("by three links", 3, twice.passes(5));
    }

    private void walksRefused() {
        for (int bad : BAD) {
            check.refuses("walk from " + bad, Check.INDEX, CutsTest::withTwoCuts, house -> house.walk(bad));
            check.refuses("passes from " + bad, Check.INDEX, CutsTest::withTwoCuts, house -> house.passes(bad));
        }
        check.refuses("one leaf too far", Check.INDEX, CutsTest::withTwoCuts, house -> house.walk(6));
        check.refuses("one leaf too far", Check.INDEX, CutsTest::withTwoCuts, house -> house.passes(6));
        for (int leaf = 1; leaf < 5; leaf++) {
            int one = leaf;
            check.refuses("walk from a root that is cut", Check.UNSUPPORTED, CutsTest::withTwoCuts,
                    house -> house.walk(one));
            check.refuses("passes from a root that is cut", Check.UNSUPPORTED, CutsTest::withTwoCuts,
                    house -> house.passes(one));
        }
        Check.Recipe gone = () -> {
            Sidelessly house = withTwoCuts();
            house.step(0);
            return house;
        };
        check.refuses("walk from a leaf that is gone", Check.INDEX, gone, house -> house.walk(1));
        check.refuses("passes from a leaf that is gone", Check.INDEX, gone, house -> house.passes(2));
        for (int unlinked : new int[] {0, 2, 4}) {
            Check.Recipe open = () -> {
                Sidelessly house = withTwoCuts();
                house.unlink(unlinked);
                return house;
            };
            check.refuses("walk to an open leaf", Check.UNSUPPORTED, open, house -> house.walk(0));
            check.refuses("walk back to an open leaf", Check.UNSUPPORTED, open, house -> house.walk(5));
            check.refuses("passes to an open leaf", Check.UNSUPPORTED, open, house -> house.passes(0));
            check.refuses("passes back to an open leaf", Check.UNSUPPORTED, open, house -> house.passes(5));
        }
    }
}
