import java.math.BigInteger;

/** Promises 15 to 22, 29, 44 and 46, and the terms of the bench: each sentence that names a boundary. */
public final class EdgesOfBenchTest {
    private static final int[] NO_NUMBERS = {Integer.MIN_VALUE, -2, -1, 24, 25, 47, 48, Integer.MAX_VALUE};

    private final Check check = new Check("EdgesOfBenchTest");

    public static void main(String[] args) {
        EdgesOfBenchTest test = new EdgesOfBenchTest();
        test.numbers();
        test.twentyFourByOnes();
        test.twentyFourByAll();
        test.goneLeavesHaveCome();
        test.clearedBench();
        test.refusedPlaces();
        test.linksOfDuals();
        test.linksOfOne();
        test.linksInFull();
        test.unlinks();
        test.cutsOfDuals();
        test.cutsOfOne();
        test.cutsInFull();
        test.goneRoots();
        test.goneRootsOfJoins();
        test.lastRoot();
        test.noSuchLeaf();
        test.noSuchRoot();
        test.goneLeaves();
        test.clears();
        test.shares();
        test.checksums();
        test.checksumsThatWrap();
        test.check.close();
    }

    /** a and A in turn, so many roots, and each one with one leaf. */
    private static Sidelessly atoms(int many) {
        Sidelessly house = new Sidelessly();
        house.atom('a', false);
        house.atom('a', true);
        for (int root = 0; root < many; root++) {
            house.place(root % 2);
        }
        return house;
    }

    /** Four roots and leaves at first; the roots 1 and 2 are gone, and so are the leaves 1 and 2. */
    private static Sidelessly withGone() {
        Sidelessly house = Houses.linking(atoms(4), 0, 1, 2, 3);
        house.cut(1, 2);
        house.step(0);
        return house;
    }

    private static String answers(Check.Call call) {
        return Check.answerOf(call).toString();
    }

    private void numbers() {
        check.sentence("numbered from 0 as they come; each has its atoms as leaves, numbered from 0 as they come, from "
                + "the first part to the second one");
        Sidelessly house = Houses.withRoots("((a|b)*c)", "d", "(C|(D*B))", "A");
        check.same("four roots", 4, house.roots());
        check.same("the next root", 4, house.place(0));
        check.same("a of root 0 and A of root 3", 1, house.link(0, 7));
        check.same("b of root 0 and B of root 2", 2, house.link(1, 6));
        check.same("c of root 0 and C of root 2", 3, house.link(2, 4));
        check.same("d of root 1 and D of root 2", 4, house.link(3, 5));
        check.same("the last leaf", "throws NoSuchElementException", answers(() -> house.linked(8)));
        check.same("one too far", "throws IndexOutOfBoundsException", answers(() -> house.linked(9)));
    }

    private void twentyFourByOnes() {
        check.sentence("At most 24 leaves come, till the bench is cleared.");
        Sidelessly house = atoms(0);
        for (int due = 0; due < 24; due++) {
            check.same("root", due, house.place(due % 2));
        }
        check.same("one leaf more", "throws IllegalStateException", answers(() -> house.place(0)));
        check.same("24 have come", 24, house.clear());
        check.same("the first one again", 0, house.place(0));
    }

    private void twentyFourByAll() {
        check.sentence("Throws IllegalStateException if more than 24 leaves would have come");
        for (int large = 1; large <= 12; large++) {
            int atoms = large;
            for (int there = 22 - large; there <= 24; there++) {
                int ones = there;
                Check.Recipe recipe = () -> {
                    Sidelessly house = Houses.withChain(true, 12);
                    for (int root = 0; root < ones; root++) {
                        house.place(0);
                    }
                    return house;
                };
                check.answers(there + " and " + large, there + large > 24 ? Check.STATE : Check.NOTHING, there, recipe,
                        house -> house.place(atoms == 1 ? 1 : atoms));
            }
        }
        check.same("12 and 12", 1, withTwelve(1).place(12));
        check.refuses("12, 12 and 12", Check.STATE, () -> withTwelve(2), house -> house.place(12));
        check.refuses("12, 12 and 1", Check.STATE, () -> withTwelve(2), house -> house.place(0));
    }

    /** The same chain of 12 atoms, so many times. */
    private static Sidelessly withTwelve(int times) {
        Sidelessly house = Houses.withChain(true, 12);
        for (int root = 0; root < times; root++) {
            house.place(12);
        }
        return house;
    }

    private void goneLeavesHaveCome() {
        check.sentence("At most 24 leaves come, till the bench is cleared.");
        Check.Recipe gone = () -> {
            Sidelessly house = Houses.linking(atoms(24), 0, 1, 2, 3, 4, 5);
            house.cut(1, 2);
            house.cut(3, 4);
            house.normal();
            return house;
        };
        check.refuses("leaves that are gone make no room", Check.STATE, gone, house -> house.place(0));
        Sidelessly last = Houses.linking(atoms(23), 0, 1, 2, 3);
        last.cut(1, 2);
        last.step(0);
        check.same("the 24th", 23, last.place(1));
        check.same("is the leaf 23", 2, last.link(22, 23));
        check.same("no 25th", "throws IllegalStateException", answers(() -> last.place(0)));
        check.same("cleared, 24 had come", 24, last.clear());
    }

    private void clearedBench() {
        check.sentence("At most 24 leaves come, till the bench is cleared.");
        Sidelessly house = withTwelve(2);
        house.clear();
        check.same("12 once more", 0, house.place(12));
        check.same("and 12", 1, house.place(12));
        check.same("and no more", "throws IllegalStateException", answers(() -> house.place(0)));
        house.axiom(0);
        check.same("a take clears it", 1, house.take(0));
        check.same("22 leaves have room", 2, house.place(12));
        check.same("10 of them", 3, house.place(10));
        check.same("24 are there", "throws IllegalStateException", answers(() -> house.place(0)));
        check.same("they had come", 24, house.clear());
        check.same("none has come", 0, house.clear());
    }

    private void refusedPlaces() {
        check.sentence("A method that throws an exception changes nothing: a root that is refused takes no room");
        Sidelessly house = withTwelve(1);
        house.place(11);
        check.same("two are too many", "throws IllegalStateException", answers(() -> house.place(2)));
        check.same("one is not", 2, house.place(0));
        check.same("24 have come", 24, house.clear());
    }

    private void linksOfDuals() {
        check.sentence("Two leaves that are dual atoms can be linked; UnsupportedOperationException if they are not "
                + "dual");
        String all = "aAbBcCdDeE";
        for (int one = 0; one < 10; one++) {
            for (int other = 0; other < 10; other++) {
                int leaf = one;
                int otherLeaf = other;
                check.answers("link of " + all.charAt(one) + " and " + all.charAt(other),
                        (one ^ 1) == other ? Check.NOTHING : Check.UNSUPPORTED, 1,
                        () -> Houses.withRoots(all.split("")), house -> house.link(leaf, otherLeaf));
            }
        }
    }

    private void linksOfOne() {
        check.sentence("each to one other one; UnsupportedOperationException if one is linked");
        Check.Recipe linked = () -> Houses.linking(atoms(4), 0, 1);
        check.refuses("both are linked", Check.UNSUPPORTED, linked, house -> house.link(0, 1));
        check.refuses("both are linked, in turn", Check.UNSUPPORTED, linked, house -> house.link(1, 0));
        check.refuses("the first one is linked", Check.UNSUPPORTED, linked, house -> house.link(0, 3));
        check.refuses("the second one is linked", Check.UNSUPPORTED, linked, house -> house.link(3, 0));
        check.same("none is linked", 2, linked.make().link(2, 3));
        Sidelessly freed = linked.make();
        freed.unlink(1);
        check.same("one that was linked", 1, freed.link(0, 3));
        check.same("and the other one", 2, freed.link(2, 1));
    }

    private void linksInFull() {
        check.sentence("Returns how many links there are.");
        Sidelessly house = atoms(24);
        for (int pair = 0; pair < 12; pair++) {
            check.same("link", pair + 1, house.link(2 * pair, 23 - 2 * pair));
        }
        check.same("the last leaf", 0, house.linked(23));
        check.same("a thirteenth one", "throws UnsupportedOperationException", answers(() -> house.link(0, 23)));
        check.same("a root beyond all", "throws IllegalStateException", answers(() -> house.place(0)));
        check.same("links behind a step", 2, Houses.linking(atoms(6), 0, 1).link(2, 3));
        Sidelessly gone = withGone();
        gone.place(0);
        gone.place(1);
        check.same("links that are gone do not count", 2, gone.link(4, 5));
    }

    private void unlinks() {
        check.sentence("unlink: Returns the other leaf; NoSuchElementException if it is not linked");
        Check.Recipe linked = () -> Houses.linking(atoms(4), 0, 3);
        check.same("by the lower one", 3, linked.make().unlink(0));
        check.same("by the higher one", 0, linked.make().unlink(3));
        check.refuses("not linked", Check.NO_SUCH, linked, house -> house.unlink(1));
        check.refuses("linked, not linked", Check.NO_SUCH, linked, house -> house.linked(2));
        check.tells("linked", 3, linked, house -> house.linked(0));
        check.tells("linked back", 0, linked, house -> house.linked(3));
        Check.Recipe unlinked = () -> {
            Sidelessly house = linked.make();
            house.unlink(3);
            return house;
        };
        check.refuses("no more linked", Check.NO_SUCH, unlinked, house -> house.unlink(0));
        check.refuses("nor the other one", Check.NO_SUCH, unlinked, house -> house.unlink(3));
        check.same("a leaf of a root that is cut", 3, cutAndLinked().unlink(0));
    }

    private static Sidelessly cutAndLinked() {
        Sidelessly house = Houses.linking(atoms(4), 0, 3);
        house.cut(0, 1);
        return house;
    }

    private void cutsOfDuals() {
        check.sentence("Two roots that are dual formulas can be cut; UnsupportedOperationException if they are not "
                + "dual");
        String[] roots = {"a", "A", "(a*b)", "(A|B)", "(B|A)", "(A*B)", "(a|b)", "((a*b)|c)", "((A|B)*C)"};
        for (int one = 0; one < roots.length; one++) {
            for (int other = 0; other < roots.length; other++) {
                int root = one;
                int otherRoot = other;
                check.answers("cut of " + roots[one] + " and " + roots[other],
                        areDual(one, other) || areDual(other, one) ? Check.NOTHING : Check.UNSUPPORTED, 1,
                        () -> Houses.withRoots(roots), house -> house.cut(root, otherRoot));
            }
        }
    }

    private static boolean areDual(int one, int other) {
        return one == 0 && other == 1 || one == 2 && other == 3 || one == 5 && other == 6 || one == 7 && other == 8;
    }

    private void cutsOfOne() {
        check.sentence("UnsupportedOperationException if they are not dual, or one is cut");
        Check.Recipe cut = () -> {
            Sidelessly house = atoms(4);
            house.cut(2, 1);
            return house;
        };
        check.refuses("both are cut", Check.UNSUPPORTED, cut, house -> house.cut(1, 2));
        check.refuses("both are cut, in turn", Check.UNSUPPORTED, cut, house -> house.cut(2, 1));
        check.refuses("the first one is cut", Check.UNSUPPORTED, cut, house -> house.cut(1, 0));
        check.refuses("the second one is cut", Check.UNSUPPORTED, cut, house -> house.cut(0, 1));
        check.same("none is cut", 2, cut.make().cut(0, 3));
        check.refuses("a root with itself", Check.UNSUPPORTED, () -> atoms(4), house -> house.cut(3, 3));
    }

    private void cutsInFull() {
        check.sentence("Returns how many cuts there are.");
        Sidelessly house = atoms(24);
        check.same("no cut", 0, house.cuts());
        for (int pair = 0; pair < 12; pair++) {
            check.same("cut", pair + 1, house.cut(2 * pair, 2 * pair + 1));
            check.same("cuts", pair + 1, house.cuts());
        }
        check.same("roots that are cut count", 24, house.roots());
        check.same("a thirteenth one", "throws UnsupportedOperationException", answers(() -> house.cut(0, 23)));
        check.same("the last root", 1, house.rootAt(23));
    }

    private void goneRoots() {
        check.sentence("A root that is gone leaves its number free for nobody.");
        Sidelessly house = withGone();
        check.same("two are left", 2, house.roots());
        check.same("the next root", 4, house.place(0));
        check.same("and the next one", 5, house.place(1));
        check.same("root 1 is gone", "throws IndexOutOfBoundsException", answers(() -> house.rootAt(1)));
        check.same("root 2 is gone", "throws IndexOutOfBoundsException", answers(() -> house.rootAt(2)));
        check.same("root 3 has its number", 1, house.rootAt(3));
        check.same("leaf 4 is that of root 4", 2, house.link(4, 5));
        check.same("cleared, numbers begin with 0", 6, house.clear());
        check.same("root 0", 0, house.place(0));
        Sidelessly last = withLastGone();
        check.same("the last roots are gone", 2, last.roots());
        check.same("their numbers are not free", 4, last.place(0));
    }

    /** The roots 2 and 3 are gone, the last ones. */
    private static Sidelessly withLastGone() {
        Sidelessly house = Houses.linking(atoms(4), 0, 3, 1, 2);
        house.cut(2, 3);
        house.step(0);
        return house;
    }

    private void goneRootsOfJoins() {
        check.sentence("A root that is gone leaves its number free for nobody.");
        Sidelessly house = Houses.withRoots("(a*b)", "(A|B)");
        house.cut(0, 1);
        house.step(0);
        check.same("four have come", 4, house.roots());
        check.same("root 0 is gone", "throws IndexOutOfBoundsException", answers(() -> house.rootAt(0)));
        check.same("root 1 is gone", "throws IndexOutOfBoundsException", answers(() -> house.rootAt(1)));
        check.same("root 2 came", 0, house.rootAt(2));
        check.same("root 5 came", 4, house.rootAt(5));
        check.same("root 6 comes", 6, house.place(0));
    }

    private void lastRoot() {
        check.sentence("numbered from 0 as they come");
        Sidelessly house = Houses.withChain(true, 12);
        house.place(12);
        house.place(house.dual(12));
        house.cut(0, 1);
        for (int joins = 11; joins > 0; joins--) {
            check.same("step of a join", 'b', house.step(firstJoin(house)));
        }
        check.same("24 roots are left", 24, house.roots());
        check.same("12 cuts", 12, house.cuts());
        check.same("the last one of 46", 1, house.rootAt(45));
        check.same("none behind it", "throws IndexOutOfBoundsException", answers(() -> house.rootAt(46)));
        check.same("nor the first one", "throws IndexOutOfBoundsException", answers(() -> house.rootAt(0)));
        check.same("24 leaves still", 24, house.clear());
    }

    /** The first cut whose step is not refused: those of atoms are, as no leaf is linked. */
    private static int firstJoin(Sidelessly house) {
        int cuts = house.cuts();
        return cuts == 1 ? 0 : cuts - 2;
    }

    private void noSuchLeaf() {
        check.sentence("Throws IndexOutOfBoundsException if there is no such leaf any more");
        for (int bad : NO_NUMBERS) {
            noSuchLeaf(bad, Sidelessly::new);
            noSuchLeaf(bad, () -> Houses.linking(atoms(4), 0, 1));
            noSuchLeaf(bad, () -> Houses.linking(atoms(24), 22, 23));
        }
        noSuchLeaf(0, Sidelessly::new);
        noSuchLeaf(4, () -> Houses.linking(atoms(4), 0, 1));
        noSuchLeaf(23, () -> atoms(23));
        check.tells("the first one", 1, () -> Houses.linking(atoms(24), 0, 1), house -> house.linked(0));
        check.tells("the last one", 22, () -> Houses.linking(atoms(24), 22, 23), house -> house.linked(23));
        check.tells("a walk from the last one", 22, () -> Houses.linking(atoms(24), 22, 23), house -> house.walk(23));
    }

    private void noSuchLeaf(int bad, Check.Recipe recipe) {
        check.refuses("link of " + bad, Check.INDEX, recipe, house -> house.link(bad, 0));
        check.refuses("link with " + bad, Check.INDEX, recipe, house -> house.link(0, bad));
        check.refuses("link of twice " + bad, Check.INDEX, recipe, house -> house.link(bad, bad));
        check.refuses("unlink of " + bad, Check.INDEX, recipe, house -> house.unlink(bad));
        check.refuses("linked of " + bad, Check.INDEX, recipe, house -> house.linked(bad));
        check.refuses("walk from " + bad, Check.INDEX, recipe, house -> house.walk(bad));
        check.refuses("passes from " + bad, Check.INDEX, recipe, house -> house.passes(bad));
    }

    private void noSuchRoot() {
        check.sentence("Throws IndexOutOfBoundsException if there is no such root any more");
        for (int bad : NO_NUMBERS) {
            noSuchRoot(bad, Sidelessly::new);
            noSuchRoot(bad, () -> atoms(4));
            noSuchRoot(bad, () -> atoms(24));
        }
        noSuchRoot(0, Sidelessly::new);
        noSuchRoot(4, () -> atoms(4));
        noSuchRoot(1, EdgesOfBenchTest::withGone);
        noSuchRoot(2, EdgesOfBenchTest::withGone);
        check.tells("the first one", 0, () -> atoms(24), house -> house.rootAt(0));
        check.tells("the last one", 1, () -> atoms(24), house -> house.rootAt(23));
        check.same("cut of the first one and the last one", 1, atoms(24).cut(0, 23));
    }

    private void noSuchRoot(int bad, Check.Recipe recipe) {
        check.refuses("cut of " + bad, Check.INDEX, recipe, house -> house.cut(bad, 0));
        check.refuses("cut with " + bad, Check.INDEX, recipe, house -> house.cut(0, bad));
        check.refuses("cut of twice " + bad, Check.INDEX, recipe, house -> house.cut(bad, bad));
        check.refuses("rootAt " + bad, Check.INDEX, recipe, house -> house.rootAt(bad));
    }

    private void goneLeaves() {
        check.sentence("Throws IndexOutOfBoundsException if there is no such leaf any more");
        noSuchLeaf(1, EdgesOfBenchTest::withGone);
        noSuchLeaf(2, EdgesOfBenchTest::withGone);
        check.refuses("link of two that are gone", Check.INDEX, EdgesOfBenchTest::withGone, house -> house.link(1, 2));
        check.tells("leaf 0 is there", 3, EdgesOfBenchTest::withGone, house -> house.linked(0));
        check.tells("leaf 3 is there", 0, EdgesOfBenchTest::withGone, house -> house.linked(3));
    }

    private void clears() {
        check.sentence("clear: Returns how many leaves had come.");
        for (int leaves = 0; leaves <= 24; leaves++) {
            check.same("so many", leaves, atoms(leaves).clear());
        }
        check.same("two of four being gone", 4, withGone().clear());
        check.same("of one root", 12, withTwelve(1).clear());
        Sidelessly house = Houses.full();
        check.same("a full bench", 24, house.clear());
        check.same("no root is left", 0, house.roots());
        check.same("no cut is left", 0, house.cuts());
        check.same("no leaf is left", "throws ArithmeticException", answers(() -> house.linkShare()));
        check.same("60 formulas are", 60, Houses.formulas(house));
        check.same("24 derivations are", 2, house.conclusions(23));
        check.same("cleared again", 0, house.clear());
    }

    private void shares() {
        check.sentence("Returns their number divided by that of all that are left, both converted to float; "
                + "ArithmeticException if there are none");
        check.refuses("of none", Check.ARITHMETIC, Sidelessly::new, house -> house.linkShare());
        check.refuses("of a cleared bench", Check.ARITHMETIC, () -> {
            Sidelessly house = atoms(24);
            house.clear();
            return house;
        }, house -> house.linkShare());
        check.tells("of one leaf", 0.0f, () -> atoms(1), house -> house.linkShare());
        check.tells("of two leaves", 1.0f, () -> Houses.linking(atoms(2), 0, 1), house -> house.linkShare());
        for (int links = 0; links <= 12; links++) {
            int many = links;
            check.tells(links + " links", 2 * links / 24.0f, () -> linkedTwoByTwo(24, many),
                    house -> house.linkShare());
            check.tells(links + " links of 23 leaves", 2 * Math.min(links, 11) / 23.0f,
                    () -> linkedTwoByTwo(23, Math.min(many, 11)), house -> house.linkShare());
        }
        check.tells("of those that are left", 1.0f, EdgesOfBenchTest::withGone, house -> house.linkShare());
        check.tells("leaves of cuts count", 0.5f, EdgesOfBenchTest::cutAndLinked, house -> house.linkShare());
    }

    private static Sidelessly linkedTwoByTwo(int leaves, int links) {
        Sidelessly house = atoms(leaves);
        for (int link = 0; link < links; link++) {
            house.link(2 * link, 2 * link + 1);
        }
        return house;
    }

    private void checksums() {
        check.sentence("Returns 7 at first, then for each root that is left 31 times itself plus its formula; then for "
                + "each leaf that is left 31 times itself plus the linked leaf, -1 without; then .. how many cuts "
                + "there "
                + "are, then .. how many formulas.");
        check.tells("of nothing", wrapped(0, 0), Sidelessly::new, house -> house.checksum());
        check.tells("of an open leaf", wrapped(0, -1, 0, 2), () -> atoms(1), house -> house.checksum());
        check.tells("of a link", wrapped(0, 1, 1, 0, 0, 2), () -> Houses.linking(atoms(2), 0, 1),
                house -> house.checksum());
        check.tells("of a cut", wrapped(0, 1, -1, -1, 1, 2), () -> {
            Sidelessly house = atoms(2);
            house.cut(0, 1);
            return house;
        }, house -> house.checksum());
        check.tells("of what is left", wrapped(0, 1, 3, 0, 0, 2), EdgesOfBenchTest::withGone,
                house -> house.checksum());
        check.tells("of sixty formulas", wrapped(0, 60), () -> Houses.withFormulas(60), house -> house.checksum());
    }

    /** The sum without a bound, of which the lowest 64 bits are left. */
    private static long wrapped(int... added) {
        BigInteger sum = BigInteger.valueOf(7);
        for (int next : added) {
            sum = sum.multiply(BigInteger.valueOf(31)).add(BigInteger.valueOf(next));
        }
        return sum.longValue();
    }

    private void checksumsThatWrap() {
        check.sentence("the checksum's sum, which may wrap around");
        for (int leaves = 1; leaves <= 24; leaves++) {
            int many = leaves;
            int[] added = new int[2 * leaves + 2];
            for (int leaf = 0; leaf < leaves; leaf++) {
                added[leaf] = leaf % 2;
                added[leaves + leaf] = leaf + 1 == leaves && leaf % 2 == 0 ? -1 : leaf ^ 1;
            }
            added[2 * leaves + 1] = 2;
            check.tells("of " + leaves + " leaves", wrapped(added), () -> linkedTwoByTwo(many, many / 2),
                    house -> house.checksum());
        }
        boolean[] isSeen = new boolean[2];
        for (int leaves = 1; leaves <= 24; leaves++) {
            isSeen[atoms(leaves).checksum() < 0 ? 1 : 0] = true;
        }
        check.same("some are negative", true, isSeen[0] && isSeen[1]);
        int[] full = new int[50];
        for (int leaf = 0; leaf < 24; leaf++) {
            full[leaf] = leaf % 2;
            full[24 + leaf] = leaf ^ 1;
        }
        full[48] = 11;
        full[49] = 60;
        check.tells("of a full house", wrapped(full), Houses::full, house -> house.checksum());
    }
}
