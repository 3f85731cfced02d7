/** Promises 8 to 14: derivations, and taking them to the bench. */
public final class DerivationsTest {
    private static final int[] BAD = {-1, 24, 1000, Integer.MIN_VALUE, Integer.MAX_VALUE};

    private final Check check = new Check("DerivationsTest");

    public static void main(String[] args) {
        DerivationsTest test = new DerivationsTest();
        test.axioms();
        test.axiomsRefused();
        test.pars();
        test.parsRefused();
        test.parsLarge();
        test.times();
        test.timesRefused();
        test.timesLarge();
        test.cuts();
        test.cutsRefused();
        test.conclusions();
        test.taking();
        test.takingCuts();
        test.takingMuch();
        test.check.close();
    }

    private static String text(Sidelessly house, int formula) {
        char kind = house.kind(formula);
        if (kind != '*' && kind != '|') {
            return "" + kind;
        }
        return "(" + text(house, house.part(formula, false)) + kind + text(house, house.part(formula, true)) + ")";
    }

    /** The conclusions of a derivation as a text. */
    private static String shown(Sidelessly house, int derivation) {
        StringBuilder text = new StringBuilder();
        for (int index = 0; index < house.conclusions(derivation); index++) {
            text.append(index == 0 ? "" : " ").append(text(house, house.conclusion(derivation, index)));
        }
        return text.toString();
    }

    private static String roots(Sidelessly house) {
        StringBuilder text = new StringBuilder();
        for (int root = 0; root < house.roots(); root++) {
            text.append(root == 0 ? "" : " ").append(text(house, house.rootAt(root)));
        }
        return text.toString();
    }

    private static String links(Sidelessly house, int leaves) {
        StringBuilder text = new StringBuilder();
        for (int leaf = 0; leaf < leaves; leaf++) {
            text.append(leaf == 0 ? "" : " ").append(house.linked(leaf));
        }
        return text.toString();
    }

    /** Axioms of a, b, c, d and e: the derivations 0 to 4. */
    private static Sidelessly withFive() {
        Sidelessly house = Houses.withAtoms();
        for (int atom = 0; atom < 10; atom += 2) {
            house.axiom(atom);
        }
        return house;
    }

    /** Derivation 0 is used, by a par. */
    private static Sidelessly withUsed(int axioms) {
        Sidelessly house = Houses.withAxioms(axioms);
        house.joinPar(0, 0, 1);
        return house;
    }

    /** Joins the plain atoms of axioms to one times, the last conclusion; answers the number of the derivation. */
    private static int star(Sidelessly house, int firstAxiom, int axioms) {
        int joined = firstAxiom;
        for (int next = firstAxiom + 1; next < firstAxiom + axioms; next++) {
            int last = joined == firstAxiom ? 0 : house.conclusions(joined) - 1;
            joined = house.joinTimes(joined, last, next, 0);
        }
        return joined;
    }

    private static Sidelessly withStar(int axioms) {
        Sidelessly house = Houses.withAxioms(axioms);
        star(house, 0, axioms);
        return house;
    }

    private void axioms() {
        Sidelessly house = new Sidelessly();
        house.atom('b', true);
        check.same("axiom of a turned atom", 0, house.axiom(0));
        check.same("its conclusions", "B b", shown(house, 0));
        check.same("its dual is a formula", 'b', house.kind(1));
        check.same("axiom of the plain atom", 1, house.axiom(1));
        check.same("its conclusions", "b B", shown(house, 1));
        check.same("the same axiom once more", 2, house.axiom(1));
        check.same("only the dual came", 2, house.atom('e', false));
        check.same("the 24th derivation", 23, Houses.withAxioms(23).axiom(0));
        check.same("with 60 formulas, the dual being there", 0, Houses.withFormulas(60).axiom(9));
    }

    private void axiomsRefused() {
        for (int bad : new int[] {-1, 10, 60, Integer.MIN_VALUE, Integer.MAX_VALUE}) {
            check.refuses("axiom of " + bad, Check.INDEX, Houses::withAtoms, in -> in.axiom(bad));
        }
        check.refuses("axiom of a times", Check.UNSUPPORTED, () -> Houses.withFormulas(11), in -> in.axiom(10));
        check.refuses("axiom of a par", Check.UNSUPPORTED, () -> Houses.withChain(true, 2), in -> in.axiom(2));
        check.refuses("a 25th derivation", Check.STATE, () -> Houses.withAxioms(24), in -> in.axiom(0));
        check.refuses("a 25th derivation of an atom without dual", Check.STATE, () -> {
            Sidelessly full = Houses.withAxioms(24);
            full.atom('b', false);
            return full;
        }, in -> in.axiom(2));
        check.refuses("of no formula, with 24", Check.INDEX, () -> Houses.withAxioms(24), in -> in.axiom(2));
        check.refuses("of a join, with 24", Check.UNSUPPORTED, () -> {
            Sidelessly full = Houses.withAxioms(24);
            full.times(0, 1);
            return full;
        }, in -> in.axiom(2));
        check.refuses("no room for the dual", Check.STATE, DerivationsTest::fullWithoutTurnedE, in -> in.axiom(8));
    }

    /** 60 formulas, all atoms but the turned e, which would be the dual of 8. */
    private static Sidelessly fullWithoutTurnedE() {
        Sidelessly house = new Sidelessly();
        for (int atom = 0; atom < 9; atom++) {
            house.atom((char) ('a' + atom / 2), atom % 2 == 1);
        }
        for (int next = 9; next < 60; next++) {
            house.par((next - 9) / 9, (next - 9) % 9);
        }
        return house;
    }

    private void pars() {
        Sidelessly house = withFive();
        house.joinTimes(0, 1, 1, 1);
        check.same("times at first", "a b (A*B)", shown(house, 5));
        check.same("par of the outer ones", 6, house.joinPar(5, 0, 2));
        check.same("the par comes last", "b (a|(A*B))", shown(house, 6));
        check.same("par turned round", 7, house.joinPar(6, 1, 0));
        check.same("the first part is the one told first", "((a|(A*B))|b)", shown(house, 7));
        check.same("the used one keeps its conclusions", "a b (A*B)", shown(house, 5));
        check.same("three formulas came", 13, house.times(0, 0));
        check.same("the new one is used by a join only", 8, house.joinTimes(7, 0, 2, 0));
        Sidelessly full = Houses.withFormulas(59);
        full.par(0, 1);
        full.axiom(0);
        check.same("no room needed", 1, full.joinPar(0, 0, 1));
    }

    private void parsRefused() {
        for (int bad : BAD) {
            check.refuses("par in " + bad, Check.INDEX, DerivationsTest::withFive, in -> in.joinPar(bad, 0, 1));
            check.refuses("par of " + bad, Check.INDEX, DerivationsTest::withFive, in -> in.joinPar(0, bad, 1));
            check.refuses("par with " + bad, Check.INDEX, DerivationsTest::withFive, in -> in.joinPar(0, 1, bad));
            check.refuses("par of twice " + bad, Check.INDEX, DerivationsTest::withFive,
                    in -> in.joinPar(0, bad, bad));
        }
        check.refuses("one conclusion too many", Check.INDEX, DerivationsTest::withFive, in -> in.joinPar(4, 0, 2));
        check.refuses("one derivation too many", Check.INDEX, DerivationsTest::withFive, in -> in.joinPar(5, 0, 1));
        check.refuses("both the same", Check.ARGUMENT, DerivationsTest::withFive, in -> in.joinPar(0, 1, 1));
        check.refuses("a used one", Check.NO_SUCH, () -> withUsed(2), in -> in.joinPar(0, 0, 1));
        check.refuses("the same of a used one", Check.ARGUMENT, () -> withUsed(2), in -> in.joinPar(0, 0, 0));
        check.refuses("nothing of a used one", Check.INDEX, () -> withUsed(2), in -> in.joinPar(0, 0, 2));
        check.refuses("24 derivations", Check.STATE, () -> Houses.withAxioms(24), in -> in.joinPar(23, 0, 1));
        check.refuses("the same with 24", Check.ARGUMENT, () -> Houses.withAxioms(24), in -> in.joinPar(23, 1, 1));
        check.refuses("a used one with 24", Check.NO_SUCH, () -> withUsed(23), in -> in.joinPar(0, 0, 1));
        Check.Recipe full = () -> {
            Sidelessly house = Houses.withFormulas(60);
            house.axiom(0);
            return house;
        };
        check.refuses("no room for the par", Check.STATE, full, in -> in.joinPar(0, 0, 1));
        check.refuses("a used one without room", Check.NO_SUCH, () -> {
            Sidelessly house = Houses.withFormulas(59);
            house.axiom(0);
            house.joinPar(0, 0, 1);
            return house;
        }, in -> in.joinPar(0, 1, 0));
    }

    private void parsLarge() {
        check.refuses("13 atoms", Check.ARGUMENT, () -> withStar(12), in -> in.joinPar(22, 0, 12));
        check.refuses("13 atoms of a used one", Check.ARGUMENT, () -> {
            Sidelessly house = withStar(12);
            house.joinPar(22, 0, 1);
            return house;
        }, in -> in.joinPar(22, 12, 0));
        Sidelessly house = withStar(11);
        check.same("12 atoms", 21, house.joinPar(20, 11, 0));
        check.same("all others are there", 11, house.conclusions(21));
        check.same("the last one is the par", '|', house.kind(house.conclusion(21, 10)));
    }

    private void times() {
        Sidelessly house = withFive();
        check.same("times of two axioms", 5, house.joinTimes(0, 0, 1, 0));
        check.same("what is left, and the times", "A B (a*b)", shown(house, 5));
        check.same("times with the second told first", 6, house.joinTimes(2, 1, 5, 1));
        check.same("others of the first one ahead", "c A (a*b) (C*B)", shown(house, 6));
        check.same("times with the first told first", 7, house.joinTimes(6, 0, 3, 1));
        check.same("the first part is of the first one", "A (a*b) (C*B) d (c*D)", shown(house, 7));
        Sidelessly full = Houses.withFormulas(60);
        full.axiom(0);
        full.axiom(0);
        check.same("no room needed", 2, full.joinTimes(0, 0, 1, 0));
    }

    private void timesRefused() {
        for (int bad : BAD) {
            check.refuses("times in " + bad, Check.INDEX, DerivationsTest::withFive, in -> in.joinTimes(bad, 0, 1, 0));
            check.refuses("times of " + bad, Check.INDEX, DerivationsTest::withFive, in -> in.joinTimes(0, bad, 1, 0));
            check.refuses("times with " + bad, Check.INDEX, DerivationsTest::withFive,
                    in -> in.joinTimes(0, 0, bad, 0));
            check.refuses("times and " + bad, Check.INDEX, DerivationsTest::withFive, in -> in.joinTimes(0, 0, 1, bad));
        }
        check.refuses("no index 2", Check.INDEX, DerivationsTest::withFive, in -> in.joinTimes(0, 0, 1, 2));
        check.refuses("no index 2 of the same", Check.INDEX, DerivationsTest::withFive, in -> in.joinTimes(0, 0, 0, 2));
        check.refuses("both the same", Check.ARGUMENT, DerivationsTest::withFive, in -> in.joinTimes(0, 0, 0, 1));
        check.refuses("the first one used", Check.NO_SUCH, () -> withUsed(2), in -> in.joinTimes(0, 0, 1, 0));
        check.refuses("the second one used", Check.NO_SUCH, () -> withUsed(2), in -> in.joinTimes(1, 0, 0, 0));
        check.refuses("the same used one", Check.ARGUMENT, () -> withUsed(2), in -> in.joinTimes(0, 0, 0, 0));
        check.refuses("no index of a used one", Check.INDEX, () -> withUsed(2), in -> in.joinTimes(0, 2, 1, 0));
        Check.Recipe joined = () -> {
            Sidelessly house = withFive();
            house.joinTimes(0, 0, 1, 0);
            return house;
        };
        check.refuses("the first one is used by times", Check.NO_SUCH, joined, in -> in.joinPar(0, 0, 1));
        check.refuses("the second one is used by times", Check.NO_SUCH, joined, in -> in.joinPar(1, 0, 1));
        check.same("the new one is not used", 6, joined.make().joinPar(5, 0, 1));
        check.refuses("24 derivations", Check.STATE, () -> Houses.withAxioms(24), in -> in.joinTimes(1, 0, 2, 0));
        check.refuses("the same with 24", Check.ARGUMENT, () -> Houses.withAxioms(24), in -> in.joinTimes(1, 0, 1, 1));
        check.refuses("used with 24", Check.NO_SUCH, () -> withUsed(23), in -> in.joinTimes(1, 0, 0, 0));
        check.refuses("no room for the times", Check.STATE, () -> {
            Sidelessly house = Houses.withFormulas(60);
            house.axiom(8);
            house.axiom(8);
            return house;
        }, in -> in.joinTimes(0, 0, 1, 0));
    }

    /** Derivation 18 has the times of 8 atoms at index 8, derivation 22 a par of 5 atoms at index 3. */
    private static Sidelessly withTwoStars() {
        Sidelessly house = Houses.withAxioms(12);
        star(house, 0, 8);
        star(house, 8, 4);
        house.joinPar(21, 4, 0);
        return house;
    }

    private void timesLarge() {
        check.refuses("13 atoms", Check.ARGUMENT, DerivationsTest::withTwoStars, in -> in.joinTimes(18, 8, 22, 3));
        check.refuses("13 atoms, the second one ahead", Check.ARGUMENT, DerivationsTest::withTwoStars,
                in -> in.joinTimes(22, 3, 18, 8));
        check.refuses("13 atoms of a used one", Check.ARGUMENT, () -> {
            Sidelessly house = withTwoStars();
            house.joinPar(18, 0, 1);
            return house;
        }, in -> in.joinTimes(18, 8, 22, 3));
        check.refuses("12 atoms of a used one", Check.NO_SUCH, DerivationsTest::withTwoStars,
                in -> in.joinTimes(18, 8, 21, 4));
        Sidelessly house = Houses.withAxioms(12);
        star(house, 0, 8);
        star(house, 8, 4);
        check.same("12 atoms", 22, house.joinTimes(18, 8, 21, 4));
        check.same("all turned atoms, and the times", 13, house.conclusions(22));
    }

    private void cuts() {
        Sidelessly house = withFive();
        house.axiom(1);
        check.same("cut of two axioms", 6, house.joinCut(0, 0, 5, 0));
        check.same("what is left", "A a", shown(house, 6));
        check.same("another cut, with the second one cut before", 8, house.joinCut(house.axiom(0), 1, 6, 1));
        check.same("others of the first one ahead", "a A", shown(house, 8));
        Sidelessly joins = withFive();
        joins.joinTimes(0, 0, 1, 0);
        joins.axiom(0);
        joins.axiom(2);
        joins.joinTimes(6, 0, 7, 0);
        joins.joinPar(8, 0, 1);
        check.same("times and par", "(a*b) (A|B)", shown(joins, 9));
        check.same("cut of times and par", 10, joins.joinCut(5, 2, 9, 1));
        check.same("what is left", "A B (a*b)", shown(joins, 10));
        check.same("no formula came", 12, joins.times(0, 0));
        check.refuses("the first one is used by a cut", Check.NO_SUCH, DerivationsTest::withCut,
                in -> in.joinPar(0, 0, 1));
        check.refuses("the second one is used by a cut", Check.NO_SUCH, DerivationsTest::withCut,
                in -> in.joinPar(1, 0, 1));
        check.same("the new one is not used", 3, withCut().joinPar(2, 0, 1));
    }

    private static Sidelessly withCut() {
        Sidelessly house = Houses.withAxioms(2);
        house.joinCut(0, 0, 1, 1);
        return house;
    }

    private void cutsRefused() {
        for (int bad : BAD) {
            check.refuses("cut in " + bad, Check.INDEX, DerivationsTest::withFive, in -> in.joinCut(bad, 0, 1, 0));
            check.refuses("cut of " + bad, Check.INDEX, DerivationsTest::withFive, in -> in.joinCut(0, bad, 1, 0));
            check.refuses("cut with " + bad, Check.INDEX, DerivationsTest::withFive, in -> in.joinCut(0, 0, bad, 0));
            check.refuses("cut and " + bad, Check.INDEX, DerivationsTest::withFive, in -> in.joinCut(0, 0, 1, bad));
        }
        check.refuses("no index 2", Check.INDEX, DerivationsTest::withFive, in -> in.joinCut(0, 0, 1, 2));
        check.refuses("both the same", Check.ARGUMENT, DerivationsTest::withFive, in -> in.joinCut(0, 0, 0, 1));
        check.refuses("no index of the same", Check.INDEX, DerivationsTest::withFive, in -> in.joinCut(0, 0, 0, 2));
        check.refuses("the same used one", Check.ARGUMENT, () -> withUsed(2), in -> in.joinCut(0, 0, 0, 1));
        check.refuses("the first one used", Check.NO_SUCH, () -> withUsed(2), in -> in.joinCut(0, 0, 1, 1));
        check.refuses("the second one used", Check.NO_SUCH, () -> withUsed(2), in -> in.joinCut(1, 0, 0, 1));
        check.refuses("used and not dual", Check.NO_SUCH, () -> withUsed(2), in -> in.joinCut(1, 0, 0, 0));
        check.refuses("alike", Check.UNSUPPORTED, DerivationsTest::withFive, in -> in.joinCut(0, 0, 1, 0));
        check.refuses("of other letters", Check.UNSUPPORTED, DerivationsTest::withFive, in -> in.joinCut(0, 0, 1, 1));
        check.refuses("not dual with 24", Check.UNSUPPORTED, () -> Houses.withAxioms(24),
                in -> in.joinCut(0, 0, 1, 0));
        check.refuses("24 derivations", Check.STATE, () -> Houses.withAxioms(24), in -> in.joinCut(0, 0, 1, 1));
        check.refuses("used with 24", Check.NO_SUCH, () -> withUsed(23), in -> in.joinCut(1, 0, 0, 1));
        check.same("with 60 formulas", 2, withFullCut());
        check.refuses("parts turned round", Check.UNSUPPORTED, () -> {
            Sidelessly house = withFive();
            house.joinTimes(0, 0, 1, 0);
            house.axiom(0);
            house.axiom(2);
            house.joinTimes(7, 0, 6, 0);
            house.joinPar(8, 0, 1);
            return house;
        }, in -> in.joinCut(5, 2, 9, 1));
    }

    private static int withFullCut() {
        Sidelessly house = Houses.withFormulas(60);
        house.axiom(0);
        house.axiom(0);
        return house.joinCut(0, 0, 1, 1);
    }

    private void conclusions() {
        for (int bad : new int[] {-1, 5, 24, Integer.MIN_VALUE, Integer.MAX_VALUE}) {
            check.refuses("conclusions of " + bad, Check.INDEX, DerivationsTest::withFive, in -> in.conclusions(bad));
            check.refuses("conclusion of " + bad, Check.INDEX, DerivationsTest::withFive, in -> in.conclusion(bad, 0));
            check.refuses("no conclusion of " + bad, Check.INDEX, DerivationsTest::withFive,
                    in -> in.conclusion(bad, -1));
        }
        for (int bad : new int[] {-1, 2, 24, Integer.MIN_VALUE, Integer.MAX_VALUE}) {
            check.refuses("conclusion " + bad, Check.NO_SUCH, DerivationsTest::withFive, in -> in.conclusion(2, bad));
        }
        check.tells("conclusions", 2, DerivationsTest::withFive, in -> in.conclusions(4));
        check.tells("first conclusion", 8, DerivationsTest::withFive, in -> in.conclusion(4, 0));
        check.tells("second conclusion", 9, DerivationsTest::withFive, in -> in.conclusion(4, 1));
        check.same("many conclusions", 13, withStar(12).conclusions(22));
        check.tells("of a used one", 2, () -> withUsed(1), in -> in.conclusions(0));
        check.tells("one conclusion", 1, () -> withUsed(1), in -> in.conclusions(1));
        check.refuses("one is not two", Check.NO_SUCH, () -> withUsed(1), in -> in.conclusion(1, 1));
    }

    private void taking() {
        Sidelessly house = withStar(2);
        house.place(0);
        house.place(1);
        house.place(1);
        house.cut(0, 1);
        house.link(0, 2);
        check.same("take", 2, house.take(2));
        check.same("roots", "A A (a*a)", roots(house));
        check.same("links", "2 3 0 1", links(house, 4));
        check.same("no cuts are left", 0, house.cuts());
        check.same("taking uses it not", 3, house.joinPar(2, 1, 0));
        check.same("take what is new", 2, house.take(3));
        check.same("roots", "(a*a) (A|A)", roots(house));
        check.same("links go with the axioms", "3 2 1 0", links(house, 4));
        check.same("take what was used", 2, house.take(2));
        check.same("links of that", "2 3 0 1", links(house, 4));
        check.same("take an axiom", 1, house.take(0));
        check.same("roots", "a A", roots(house));
        check.same("so many leaves have come", 2, house.clear());
        check.same("take after that", 1, house.take(1));
        check.same("a root behind", 2, house.place(0));
        for (int bad : new int[] {-1, 3, 24, Integer.MIN_VALUE, Integer.MAX_VALUE}) {
            check.refuses("take " + bad, Check.INDEX, () -> {
                Sidelessly taken = withStar(2);
                taken.take(2);
                return taken;
            }, in -> in.take(bad));
        }
    }

    /** Derivation 6 has the cuts of derivation 5 ahead of those of derivation 4, and its own one last. */
    private static Sidelessly withThreeCuts() {
        Sidelessly house = Houses.withAxioms(4);
        house.joinCut(0, 1, 1, 0);
        house.joinCut(2, 0, 3, 1);
        house.joinCut(5, 0, 4, 0);
        return house;
    }

    private void takingCuts() {
        Sidelessly house = withThreeCuts();
        check.same("take", 4, house.take(6));
        check.same("roots", "a A a A A a A a", roots(house));
        check.same("links", "3 5 6 0 7 1 2 4", links(house, 8));
        check.same("cuts", 3, house.cuts());
        check.same("the walk goes through all", 4, house.passes(0));
        check.same("the first cut is of the roots 2 and 3", 'a', house.step(0));
        check.same("root 2 is gone", "throws IndexOutOfBoundsException", Check.answerOf(() -> house.rootAt(2)));
        check.same("root 4 is left", 1, house.rootAt(4));
        Sidelessly mixed = withFive();
        mixed.axiom(0);
        mixed.axiom(2);
        mixed.joinCut(0, 0, 5, 1);
        mixed.joinCut(1, 1, 6, 0);
        check.same("the one ahead", "A a", shown(mixed, 7));
        check.same("the other one", "b B", shown(mixed, 8));
        mixed.joinTimes(8, 0, 7, 0);
        mixed.joinPar(9, 1, 0);
        check.same("all links", 4, mixed.take(10));
        check.same("cuts of the first one ahead", "(b*A) (a|B) B b a A", roots(mixed));
        check.same("links", "4 6 7 5 0 3 1 2", links(mixed, 8));
    }

    private void takingMuch() {
        Sidelessly house = withStar(12);
        check.same("24 leaves", 12, house.take(22));
        check.same("they all have come", 24, house.clear());
        Sidelessly cuts = Houses.withAxioms(12);
        int joined = 0;
        for (int next = 1; next < 12; next++) {
            joined = cuts.joinCut(joined, 1, next, 0);
        }
        check.same("24 leaves of cuts", 12, cuts.take(joined));
        check.same("conclusions and cut roots", 24, cuts.roots());
        check.same("11 cuts", 11, cuts.cuts());
        check.same("a long walk", 12, cuts.passes(0));
        check.same("to the other one", 1, cuts.walk(0));
    }
}
