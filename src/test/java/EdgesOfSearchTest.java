/** Promises 42, 43 and 47: each sentence that names a boundary of the search and of isTrue, inside it and outside. */
public final class EdgesOfSearchTest {
    private final Check check = new Check("EdgesOfSearchTest");

    public static void main(String[] args) {
        EdgesOfSearchTest test = new EdgesOfSearchTest();
        test.nothing();
        test.oddLeaves();
        test.tenLeaves();
        test.leavesThatAreLeft();
        test.cuts();
        test.indices();
        test.mostProofs();
        test.noProof();
        test.whateverIsLinked();
        test.orders();
        test.truthBeyondLimits();
        test.truthAfterAll();
        test.truthBehindChanges();
        test.check.close();
    }

    private static Check.Recipe bench(String roots) {
        return () -> Houses.withRoots(roots.split(" "));
    }

    private static String links(Sidelessly house, int leaves) {
        StringBuilder text = new StringBuilder();
        for (int leaf = 0; leaf < leaves; leaf++) {
            text.append(leaf == 0 ? "" : " ").append(house.linked(leaf));
        }
        return text.toString();
    }

    private void nothing() {
        check.sentence("Returns how many ways there are to link all leaves of the bench so that it is a proof.");
        check.tells("an empty bench is no proof", 0, Sidelessly::new, house -> house.proofs());
        check.refuses("and has none", Check.NO_SUCH, Sidelessly::new, house -> house.proof(0));
        check.tells("a cleared bench", 0, () -> {
            Sidelessly house = bench("a A").make();
            house.clear();
            return house;
        }, house -> house.proofs());
        check.tells("the fewest leaves", 1, bench("a A"), house -> house.proofs());
        check.same("one link", 1, bench("a A").make().proof(0));
    }

    private void oddLeaves() {
        check.sentence("to link all leaves of the bench");
        StringBuilder roots = new StringBuilder("a");
        for (int leaves = 1; leaves <= 9; leaves += 2) {
            String text = roots.toString();
            check.tells(leaves + " leaves", 0, bench(text), house -> house.proofs());
            check.refuses("none of " + leaves + " leaves", Check.NO_SUCH, bench(text), house -> house.proof(0));
            roots.append(" (a|A)");
        }
    }

    /** A times of so many axioms, each one by a par, has one proof. */
    private static String axioms(int pairs) {
        StringBuilder text = new StringBuilder("(a|A)");
        for (int pair = 1; pair < pairs; pair++) {
            text.insert(0, "(").append("*(a|A))");
        }
        return text.toString();
    }

    private void tenLeaves() {
        check.sentence("or there are more than 10 leaves");
        for (int pairs = 1; pairs <= 6; pairs++) {
            Check.Recipe recipe = bench(axioms(pairs));
            check.answers(2 * pairs + " leaves", pairs > 5 ? Check.UNSUPPORTED : Check.NOTHING, 1, recipe,
                    house -> house.proofs());
            check.answers("the proof of " + 2 * pairs, pairs > 5 ? Check.UNSUPPORTED : Check.NOTHING, pairs, recipe,
                    house -> house.proof(0));
        }
        check.tells("nine leaves", 0, bench(axioms(4) + " a"), house -> house.proofs());
        check.refuses("eleven leaves", Check.UNSUPPORTED, bench(axioms(5) + " a"), house -> house.proofs());
        check.refuses("a proof of eleven leaves", Check.UNSUPPORTED, bench(axioms(5) + " a"),
                house -> house.proof(0));
        check.refuses("24 leaves", Check.UNSUPPORTED, bench(axioms(6) + " " + axioms(6)), house -> house.proofs());
        check.tells("ten roots", 0, bench("a A a A a A a A a A"), house -> house.proofs());
        check.refuses("eleven roots", Check.UNSUPPORTED, bench("a A a A a A a A a A a"), house -> house.proofs());
    }

    private void leavesThatAreLeft() {
        check.sentence("or there are more than 10 leaves: of those that are left");
        Check.Recipe ten = () -> {
            Sidelessly house = Houses.withRoots("A", "a", "A", "(a*" + axioms(4) + ")");
            Houses.linking(house, 0, 1, 2, 3);
            house.cut(1, 2);
            house.step(0);
            return house;
        };
        check.tells("ten of twelve", 1, ten, house -> house.proofs());
        check.same("five links", 5, ten.make().proof(0));
        Check.Recipe eleven = () -> {
            Sidelessly house = ten.make();
            house.place(0);
            return house;
        };
        check.refuses("eleven of thirteen", Check.UNSUPPORTED, eleven, house -> house.proofs());
        check.refuses("no proof of eleven", Check.UNSUPPORTED, eleven, house -> house.proof(0));
    }

    private void cuts() {
        check.sentence("Throws UnsupportedOperationException if there is a cut");
        Check.Recipe cut = () -> {
            Sidelessly house = Houses.linking(Houses.withRoots("a", "A", "a", "A"), 0, 1, 2, 3);
            house.cut(1, 2);
            return house;
        };
        check.refuses("proofs", Check.UNSUPPORTED, cut, house -> house.proofs());
        check.refuses("proof", Check.UNSUPPORTED, cut, house -> house.proof(0));
        check.refuses("proof, where there is none", Check.UNSUPPORTED, cut, house -> house.proof(-1));
        check.refuses("a cut and many leaves", Check.UNSUPPORTED, Houses::full, house -> house.proofs());
        Check.Recipe gone = () -> {
            Sidelessly house = cut.make();
            house.normal();
            return house;
        };
        check.tells("no cut is left", 1, gone, house -> house.proofs());
        check.same("one link", 1, gone.make().proof(0));
    }

    private void indices() {
        check.sentence("the index, from 0; NoSuchElementException if there is none");
        Check.Recipe two = () -> Houses.linking(Houses.withRoots("(a*a)", "(A|A)"), 0, 3);
        check.tells("two ways", 2, two, house -> house.proofs());
        check.same("the first one", 2, two.make().proof(0));
        check.same("the last one", 2, two.make().proof(1));
        for (int bad : new int[] {Integer.MIN_VALUE, -2, -1, 2, 3, 4, 1000, Integer.MAX_VALUE - 1, Integer.MAX_VALUE}) {
            check.refuses("proof " + bad, Check.NO_SUCH, two, house -> house.proof(bad));
        }
    }

    private static Sidelessly withMost() {
        return Houses.withRoots("((a*a)*((a*a)*a))", "A", "A", "A", "A", "A");
    }

    private void mostProofs() {
        check.sentence("Returns how many ways there are");
        check.tells("the most of ten leaves", 120, EdgesOfSearchTest::withMost, house -> house.proofs());
        Sidelessly house = withMost();
        check.same("the last one", 5, house.proof(119));
        check.same("its links", "9 8 7 6 5 4 3 2 1 0", links(house, 10));
        check.same("the first one", 5, house.proof(0));
        check.same("its links", "5 6 7 8 9 0 1 2 3 4", links(house, 10));
        check.refuses("one too far", Check.NO_SUCH, EdgesOfSearchTest::withMost, in -> in.proof(120));
        check.refuses("the number of all pairings", Check.NO_SUCH, EdgesOfSearchTest::withMost, in -> in.proof(944));
        check.refuses("one more than these", Check.NO_SUCH, EdgesOfSearchTest::withMost, in -> in.proof(945));
    }

    private void noProof() {
        check.sentence("proof: NoSuchElementException if there is none");
        for (String roots : new String[] {"a", "a a", "a B", "(a*A)", "(a|A) (a|A)", "a A a A", "(a|b) A B"}) {
            check.tells("none of " + roots, 0, bench(roots), house -> house.proofs());
            check.refuses("no proof of " + roots, Check.NO_SUCH, bench(roots), house -> house.proof(0));
        }
        check.refuses("links stay", Check.NO_SUCH, () -> Houses.linking(Houses.withRoots("(a*A)"), 0, 1),
                house -> house.proof(0));
    }

    private void whateverIsLinked() {
        check.sentence("Returns how many, whatever is linked now.");
        for (int linked = 0; linked < 4; linked++) {
            int bits = linked;
            Check.Recipe recipe = () -> {
                Sidelessly house = Houses.withRoots("(a*a)", "(A|A)");
                if ((bits & 1) != 0) {
                    house.link(0, 3);
                }
                if ((bits & 2) != 0) {
                    house.link(1, 2);
                }
                return house;
            };
            check.tells("two ways", 2, recipe, house -> house.proofs());
            Sidelessly house = recipe.make();
            check.same("all are linked anew", 2, house.proof(0));
            check.same("in the first way", "2 3 0 1", links(house, 4));
        }
    }

    private void orders() {
        check.sentence("by the leaf that is linked to the lowest one, then by that linked to the next lowest one, and "
                + "so on");
        Sidelessly house = Houses.withRoots("((a*a)*a)", "A", "A", "A");
        String[] due = {"3 4 5 0 1 2", "3 5 4 0 2 1", "4 3 5 1 0 2", "4 5 3 2 0 1", "5 3 4 1 2 0", "5 4 3 2 1 0"};
        for (int index = 0; index < due.length; index++) {
            check.same("three links", 3, house.proof(index));
            check.same("the way " + index, due[index], links(house, 6));
        }
        check.same("no more", "throws NoSuchElementException", Check.answerOf(() -> house.proof(6)));
        check.same("the links stay", due[5], links(house, 6));
        Sidelessly within = Houses.withRoots("(a|A)", "((a|A)*(a|A))");
        check.same("a piece alone is none", 0, within.proofs());
        Sidelessly pars = Houses.withRoots("((a|A)|(A*a))");
        check.same("not the first two leaves, as the others would be a ring", 1, pars.proofs());
        pars.proof(0);
        check.same("the only way", "2 3 0 1", links(pars, 4));
    }

    private void truthBeyondLimits() {
        check.sentence("Checks that the three tests agree, if there are not too many pars and times; .. its meaning "
                + "is a "
                + "clique, if there are not too many rows");
        for (int joins = 4; joins <= 11; joins++) {
            int many = joins;
            for (int points = 1; points <= 3; points++) {
                int told = points;
                Check.Recipe recipe = () -> {
                    Sidelessly house = Houses.withChain(true, 12);
                    house.place(many + 1);
                    house.place(house.dual(many + 1));
                    house.points('a', told);
                    for (int leaf = 0; leaf <= many; leaf++) {
                        house.link(leaf, many + 1 + leaf);
                    }
                    return house;
                };
                check.tells(joins + " pars and times, " + points + " points", true, recipe, house -> house.isTrue());
                check.tells("the same without a link", true, () -> {
                    Sidelessly house = recipe.make();
                    house.unlink(0);
                    return house;
                }, house -> house.isTrue());
            }
        }
    }

    private void truthAfterAll() {
        check.sentence("Returns whether all of it holds.");
        check.tells("an empty house", true, Sidelessly::new, house -> house.isTrue());
        check.tells("a full house", true, Houses::full, house -> house.isTrue());
        check.tells("an open leaf", true, bench("a"), house -> house.isTrue());
        check.tells("a ring", true, () -> Houses.linking(Houses.withRoots("(a*A)"), 0, 1), house -> house.isTrue());
        check.tells("a cut that is refused", true, () -> {
            Sidelessly house = Houses.linking(Houses.withRoots("a", "A"), 0, 1);
            house.cut(0, 1);
            return house;
        }, house -> house.isTrue());
        check.tells("each proof of a search", true, () -> {
            Sidelessly house = withMost();
            house.proof(77);
            return house;
        }, house -> house.isTrue());
    }

    /** It looks at the bench as it stands, not at what another call has seen before. */
    private void truthBehindChanges() {
        check.sentence("isTrue: Returns whether all of it holds.");
        Sidelessly house = Houses.full();
        check.same("a proof", true, house.byContraction());
        house.unlink(0);
        check.same("a link less", true, house.isTrue());
        check.same("no proof", false, house.byContraction());
        house.link(0, 1);
        check.same("linked again", true, house.isTrue());
        check.same("a proof", true, house.byTrips());
        house.step(3);
        check.same("a step later", true, house.isTrue());
        house.normal();
        check.same("the normal form", true, house.isTrue());
        check.same("a proof", true, house.byChoices());
        house.clear();
        check.same("an empty bench", true, house.isTrue());
        house.place(0);
        check.same("an open leaf", true, house.isTrue());
        house.take(23);
        check.same("an axiom", true, house.isTrue());
        check.same("a proof", true, house.byChoices());
        house.cut(0, 1);
        check.same("cut with itself", true, house.isTrue());
    }
}
