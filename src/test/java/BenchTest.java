/** Promises 15 to 22, 29, 44 and 46: the bench, the share of links and the checksum. */
public final class BenchTest {
    private static final int[] BAD = {-1, 24, 48, 1000, Integer.MIN_VALUE, Integer.MAX_VALUE};

    private final Check check = new Check("BenchTest");

    public static void main(String[] args) {
        BenchTest test = new BenchTest();
        test.placing();
        test.placingMuch();
        test.linking();
        test.linkingRefused();
        test.unlinking();
        test.cutting();
        test.cuttingRefused();
        test.clearing();
        test.roots();
        test.linked();
        test.shares();
        test.checksums();
        test.check.close();
    }

    /** Root 0 is a with leaf 0, root 1 is (A|b) with the leaves 1 and 2, root 2 is (a*B) with 3 and 4, root 3 is B. */
    private static Sidelessly withFour() {
        return Houses.withRoots("a", "(A|b)", "(a*B)", "B");
    }

    /** The roots 1 and 2 are cut, and so their leaves are those of no conclusion. */
    private static Sidelessly withCut() {
        Sidelessly house = withFour();
        house.cut(2, 1);
        return house;
    }

    /** The leaves 1 and 2 and the roots 1 and 2 are gone, a link is there between the leaves 0 and 3. */
    private static Sidelessly withStep() {
        Sidelessly house = Houses.withRoots("a", "A", "a", "A");
        Houses.linking(house, 0, 1, 2, 3);
        house.cut(1, 2);
        house.step(0);
        return house;
    }

    private void placing() {
        Sidelessly house = new Sidelessly();
        int formula = Houses.told(house, "((a|b)*C)");
        check.same("first root", 0, house.place(formula));
        check.same("the same formula once more", 1, house.place(formula));
        check.same("an atom", 2, house.place(0));
        check.same("its formula", formula, house.rootAt(1));
        house.atom('b', true);
        house.place(5);
        check.same("leaf 4 is the b of the second root", 1, house.link(7, 4));
        for (int bad : new int[] {-1, 5, 60, Integer.MIN_VALUE, Integer.MAX_VALUE}) {
            check.refuses("place " + bad, Check.INDEX, () -> Houses.withRoots("((a|b)*C)"), in -> in.place(bad));
        }
    }

    private void placingMuch() {
        Check.Recipe full = () -> {
            Sidelessly house = Houses.withChain(true, 12);
            house.place(12);
            house.place(12);
            return house;
        };
        check.same("24 leaves", 24, full.make().clear());
        check.refuses("a 25th leaf", Check.STATE, full, in -> in.place(0));
        check.refuses("no formula on a full bench", Check.INDEX, full, in -> in.place(13));
        Check.Recipe nearly = () -> {
            Sidelessly house = Houses.withChain(true, 12);
            house.place(12);
            house.place(11);
            return house;
        };
        check.refuses("25 leaves by two", Check.STATE, nearly, in -> in.place(2));
        check.same("24 leaves by one", 2, nearly.make().place(0));
        check.refuses("leaves that are gone have come", Check.STATE, BenchTest::withStepOfMany, in -> in.place(0));
        Sidelessly cleared = withStepOfMany();
        cleared.clear();
        check.same("cleared", 0, cleared.place(0));
    }

    private static Sidelessly withStepOfMany() {
        Sidelessly house = new Sidelessly();
        int a = house.atom('a', false);
        int turned = house.atom('a', true);
        for (int pair = 0; pair < 12; pair++) {
            house.place(a);
            house.place(turned);
        }
        Houses.linking(house, 0, 1, 2, 3);
        house.cut(1, 2);
        house.step(0);
        return house;
    }

    private void linking() {
        Sidelessly house = withFour();
        check.same("a link", 1, house.link(1, 0));
        check.same("to one side", 1, house.linked(0));
        check.same("to the other one", 0, house.linked(1));
        check.same("a second link", 2, house.link(2, 4));
        check.same("within one formula", 1, Houses.withRoots("(a*A)").link(1, 0));
        check.same("leaves of a root that is cut", 1, withCut().link(3, 1));
        Sidelessly stepped = withStep();
        stepped.place(0);
        stepped.place(1);
        check.same("a link behind a step", 2, stepped.link(4, 5));
    }

    private void linkingRefused() {
        for (int bad : new int[] {-1, 6, 24, Integer.MIN_VALUE, Integer.MAX_VALUE}) {
            check.refuses("link " + bad, Check.INDEX, BenchTest::withFour, in -> in.link(bad, 0));
            check.refuses("link to " + bad, Check.INDEX, BenchTest::withFour, in -> in.link(0, bad));
            check.refuses("link both " + bad, Check.INDEX, BenchTest::withFour, in -> in.link(bad, bad));
        }
        check.refuses("alike", Check.UNSUPPORTED, BenchTest::withFour, in -> in.link(0, 3));
        check.refuses("of other letters", Check.UNSUPPORTED, BenchTest::withFour, in -> in.link(0, 4));
        check.refuses("the same", Check.UNSUPPORTED, BenchTest::withFour, in -> in.link(2, 2));
        Check.Recipe linked = () -> Houses.linking(withFour(), 0, 1);
        check.refuses("linked with each other", Check.UNSUPPORTED, linked, in -> in.link(0, 1));
        check.refuses("the second one linked", Check.UNSUPPORTED, linked, in -> in.link(3, 1));
        check.refuses("the first one linked", Check.UNSUPPORTED, linked, in -> in.link(1, 3));
        check.refuses("linked, and one is not there", Check.INDEX, linked, in -> in.link(1, 6));
        check.refuses("a leaf that is gone", Check.INDEX, BenchTest::withStep, in -> in.link(0, 1));
        check.refuses("a leaf that is gone, told first", Check.INDEX, BenchTest::withStep, in -> in.link(2, 3));
    }

    private void unlinking() {
        Sidelessly house = Houses.linking(withFour(), 0, 1, 2, 4);
        check.same("unlink answers the other leaf", 4, house.unlink(2));
        check.same("one link is left", 2, house.link(4, 2));
        check.same("unlink by the other end", 2, house.unlink(4));
        check.same("the other link stays", 1, house.linked(0));
        check.same("unlink the first one", 0, house.unlink(1));
        check.same("a new link", 1, house.link(1, 3));
        for (int bad : new int[] {-1, 6, 24, Integer.MIN_VALUE, Integer.MAX_VALUE}) {
            check.refuses("unlink " + bad, Check.INDEX, BenchTest::withFour, in -> in.unlink(bad));
        }
        check.refuses("not linked", Check.NO_SUCH, () -> Houses.linking(withFour(), 0, 1), in -> in.unlink(3));
        check.refuses("a leaf that is gone", Check.INDEX, BenchTest::withStep, in -> in.unlink(1));
        check.same("the link of a step", 0, withStep().unlink(3));
    }

    private void cutting() {
        Sidelessly house = withFour();
        check.same("a cut", 1, house.cut(2, 1));
        check.same("they are roots still", 4, house.roots());
        check.same("so many cuts", 1, house.cuts());
        Houses.placeAll(house, "A");
        check.same("a second cut", 2, house.cut(0, 4));
        check.same("so many cuts", 2, house.cuts());
        check.same("of atoms of one letter", 1, Houses.withRoots("E", "e").cut(0, 1));
    }

    private void cuttingRefused() {
        for (int bad : new int[] {-1, 4, 24, 47, 48, Integer.MIN_VALUE, Integer.MAX_VALUE}) {
            check.refuses("cut " + bad, Check.INDEX, BenchTest::withFour, in -> in.cut(bad, 0));
            check.refuses("cut with " + bad, Check.INDEX, BenchTest::withFour, in -> in.cut(1, bad));
            check.refuses("cut both " + bad, Check.INDEX, BenchTest::withFour, in -> in.cut(bad, bad));
        }
        check.refuses("not dual", Check.UNSUPPORTED, BenchTest::withFour, in -> in.cut(0, 1));
        check.refuses("the same", Check.UNSUPPORTED, BenchTest::withFour, in -> in.cut(1, 1));
        check.refuses("alike", Check.UNSUPPORTED, () -> Houses.withRoots("(a*b)", "(a*b)"), in -> in.cut(0, 1));
        check.refuses("times and times", Check.UNSUPPORTED, () -> Houses.withRoots("(a*b)", "(A*B)"),
                in -> in.cut(0, 1));
        check.refuses("parts turned round", Check.UNSUPPORTED, () -> Houses.withRoots("(a*b)", "(B|A)"),
                in -> in.cut(0, 1));
        Check.Recipe cut = () -> {
            Sidelessly house = withCut();
            Houses.placeAll(house, "(A|b)", "(a*B)");
            return house;
        };
        check.refuses("cut with each other", Check.UNSUPPORTED, cut, in -> in.cut(1, 2));
        check.refuses("the first one is cut", Check.UNSUPPORTED, cut, in -> in.cut(1, 5));
        check.refuses("the second one is cut", Check.UNSUPPORTED, cut, in -> in.cut(4, 2));
        check.same("others are not cut", 2, cut.make().cut(4, 5));
        check.refuses("a root that is gone", Check.INDEX, BenchTest::withStep, in -> in.cut(0, 1));
        check.refuses("a root that is gone, told first", Check.INDEX, BenchTest::withStep, in -> in.cut(2, 3));
        check.same("roots that are left", 1, withStep().cut(0, 3));
    }

    private void clearing() {
        check.same("six leaves", 6, withFour().clear());
        check.same("leaves that are gone have come", 4, withStep().clear());
        Sidelessly house = Houses.linking(withCut(), 1, 3);
        house.clear();
        check.same("no leaf", 0, house.clear());
        check.same("no root", 0, house.roots());
        check.same("no cut", 0, house.cuts());
        check.same("numbers begin anew", 0, house.place(0));
        check.same("nothing is linked", "throws NoSuchElementException", Check.answerOf(() -> house.linked(0)));
        check.same("formulas are left", 'a', house.kind(0));
        check.same("no leaf 1", "throws IndexOutOfBoundsException", Check.answerOf(() -> house.linked(1)));
        Houses.placeAll(house, "(A|b)", "(a*B)");
        check.same("nothing is cut", 1, house.cut(1, 2));
        check.same("nothing was linked", 1, house.link(1, 3));
        Sidelessly derived = Houses.withAxioms(2);
        derived.clear();
        check.same("derivations are left", 2, derived.joinPar(0, 0, 1));
    }

    private void roots() {
        check.tells("roots", 4, BenchTest::withFour, in -> in.roots());
        check.tells("roots with a cut", 4, BenchTest::withCut, in -> in.roots());
        check.tells("roots behind a step", 2, BenchTest::withStep, in -> in.roots());
        check.tells("cuts", 1, BenchTest::withCut, in -> in.cuts());
        check.tells("cuts behind a step", 0, BenchTest::withStep, in -> in.cuts());
        check.tells("first root", 0, BenchTest::withFour, in -> in.rootAt(0));
        check.tells("last root", 4, BenchTest::withFour, in -> in.rootAt(3));
        check.tells("a root that is cut", 5, BenchTest::withCut, in -> in.rootAt(2));
        for (int bad : BAD) {
            check.refuses("root " + bad, Check.INDEX, BenchTest::withFour, in -> in.rootAt(bad));
        }
        check.refuses("root 4", Check.INDEX, BenchTest::withFour, in -> in.rootAt(4));
        check.refuses("a root that is gone", Check.INDEX, BenchTest::withStep, in -> in.rootAt(1));
        check.refuses("another one", Check.INDEX, BenchTest::withStep, in -> in.rootAt(2));
        check.tells("a root that is left", 1, BenchTest::withStep, in -> in.rootAt(3));
        check.same("a number of its own", 4, withStep().place(0));
    }

    private void linked() {
        Check.Recipe linked = () -> Houses.linking(withCut(), 1, 3);
        check.tells("linked", 3, linked, in -> in.linked(1));
        check.tells("linked to it", 1, linked, in -> in.linked(3));
        check.refuses("not linked", Check.NO_SUCH, linked, in -> in.linked(0));
        for (int bad : new int[] {-1, 6, 24, Integer.MIN_VALUE, Integer.MAX_VALUE}) {
            check.refuses("linked to " + bad, Check.INDEX, linked, in -> in.linked(bad));
        }
        check.refuses("a leaf that is gone", Check.INDEX, BenchTest::withStep, in -> in.linked(2));
        check.tells("the link of a step", 3, BenchTest::withStep, in -> in.linked(0));
    }

    private void shares() {
        check.refuses("share of none", Check.ARITHMETIC, Sidelessly::new, in -> in.linkShare());
        check.refuses("share of a cleared bench", Check.ARITHMETIC, () -> {
            Sidelessly house = withFour();
            house.clear();
            return house;
        }, in -> in.linkShare());
        check.tells("none linked", 0.0f, BenchTest::withFour, in -> in.linkShare());
        check.tells("two of six", 2.0f / 6.0f, () -> Houses.linking(withFour(), 0, 1), in -> in.linkShare());
        check.tells("four of six", 4.0f / 6.0f, () -> Houses.linking(withFour(), 0, 1, 2, 4), in -> in.linkShare());
        check.tells("all that are left", 1.0f, BenchTest::withStep, in -> in.linkShare());
        check.tells("two of three", 2.0f / 3.0f, () -> Houses.linking(Houses.withRoots("a", "(A|A)"), 0, 2),
                in -> in.linkShare());
    }

    private void checksums() {
        long due = 7;
        for (int next : new int[] {0, 3, 5, 4, 1, 0, -1, -1, -1, -1, 0, 6}) {
            due = 31 * due + next;
        }
        check.tells("four roots, six leaves, a link", due, () -> Houses.linking(withFour(), 0, 1),
                in -> in.checksum());
        long dueWithCut = 7;
        for (int next : new int[] {0, 3, 5, 4, -1, 3, -1, 1, -1, -1, 1, 6}) {
            dueWithCut = 31 * dueWithCut + next;
        }
        check.tells("with a cut", dueWithCut, () -> Houses.linking(withCut(), 1, 3), in -> in.checksum());
        long dueWithStep = 7;
        for (int next : new int[] {0, 1, 3, 0, 0, 2}) {
            dueWithStep = 31 * dueWithStep + next;
        }
        check.tells("behind a step", dueWithStep, BenchTest::withStep, in -> in.checksum());
        check.tells("with formulas alone", (7L * 31 + 0) * 31 + 10, Houses::withAtoms, in -> in.checksum());
    }
}
