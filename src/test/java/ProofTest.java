/** Promises 23 to 26: the three tests whether the net is a proof, and the first bad choice. */
public final class ProofTest {
    private final Check check = new Check("ProofTest");

    public static void main(String[] args) {
        ProofTest test = new ProofTest();
        test.proofs();
        test.netsThatAreNone();
        test.netsThatAreNotComplete();
        test.firstBadChoices();
        test.rootsInOrder();
        test.cuts();
        test.manyPars();
        test.manyJoins();
        test.largeNets();
        test.check.close();
    }

    private void answers(String what, boolean due, Check.Recipe recipe) {
        check.tells(what + ", by choices", due, recipe, house -> house.byChoices());
        check.tells(what + ", by contraction", due, recipe, house -> house.byContraction());
        check.tells(what + ", by trips", due, recipe, house -> house.byTrips());
    }

    private void isProof(String what, Check.Recipe recipe) {
        answers(what, true, recipe);
        check.refuses(what + ", no bad choice", Check.NO_SUCH, recipe, house -> house.badChoice());
    }

    private void isNone(String what, int badChoice, Check.Recipe recipe) {
        answers(what, false, recipe);
        check.tells(what + ", first bad choice", badChoice, recipe, house -> house.badChoice());
    }

    private static Check.Recipe net(String roots, int... links) {
        return () -> Houses.linking(Houses.withRoots(roots.split(" ")), links);
    }

    private void proofs() {
        isProof("an axiom", net("a A", 0, 1));
        isProof("a par of an axiom", net("(a|A)", 0, 1));
        isProof("times with two conclusions", net("(a*b) B A", 0, 3, 1, 2));
        isProof("times and par", net("(a*b) (A|B)", 0, 2, 1, 3));
        isProof("times and par crossed", net("(a*a) (A|A)", 0, 3, 1, 2));
        isProof("times of pars", net("((a|A)*(b|B))", 0, 1, 2, 3));
        isProof("par of times", net("((a*b)|(A|B))", 0, 2, 1, 3));
        isProof("one par within the other one", net("(a|((A*b)|B))", 0, 1, 2, 3));
    }

    private void netsThatAreNone() {
        isNone("a ring in a times", 0, net("(a*A)", 0, 1));
        isNone("two rings", 0, net("(a*A) (b*B)", 0, 1, 2, 3));
        isNone("two pieces", 0, net("a A b B", 0, 1, 2, 3));
        isNone("two pieces with pars", 0, net("(a|A) (b|B)", 0, 1, 2, 3));
        isNone("a par of two pieces", 0, net("(a|b) A B", 0, 2, 1, 3));
        isNone("two times linked twice", 0, net("(a*b) (A*B)", 0, 2, 1, 3));
        isNone("a piece and a ring", 0, net("(a|A) (b*B)", 0, 1, 2, 3));
    }

    private void netsThatAreNotComplete() {
        for (String roots : new String[] {"", "a A", "(a|A)", "(a*b) (A|B)"}) {
            Check.Recipe recipe = () -> {
                Sidelessly house = new Sidelessly();
                if (!roots.isEmpty()) {
                    Houses.placeAll(house, roots.split(" "));
                }
                if (roots.length() > 5) {
                    house.link(0, 2);
                }
                return house;
            };
            answers("not complete: " + roots, false, recipe);
            check.refuses("no bad choice of " + roots, Check.NO_SUCH, recipe, house -> house.badChoice());
        }
        isNone("two pieces, all linked", 0, () -> Houses.linking(Houses.withRoots("a", "A", "a", "A"), 0, 1, 2, 3));
        Check.Recipe halves = () -> Houses.linking(Houses.withRoots("a", "A", "a"), 0, 1);
        answers("one leaf not linked", false, halves);
        check.refuses("no bad choice of it", Check.NO_SUCH, halves, house -> house.badChoice());
    }

    /** A par that is bad if the second part is chosen, since that part is linked back to the par from above. */
    private void firstBadChoices() {
        isNone("the second part is bad", 1, net("((a|b)*c) (B*C) A", 0, 5, 1, 3, 2, 4));
        isNone("the first part is bad", 0, net("((b|a)*c) (B*C) A", 1, 5, 0, 3, 2, 4));
        isNone("the par of an earlier root is the bit 1", 2,
                net("(A*(e|E)) ((a|b)*c) (B*C)", 0, 3, 1, 2, 4, 6, 5, 7));
        isNone("a formula stands ahead of its parts", 2, net("(((a|b)*c)|A) (B*C)", 0, 3, 1, 4, 2, 5));
        isNone("the first part stands ahead of the second one", 4,
                net("((A*(e|E))|((a|b)*c)) (B*C)", 0, 3, 1, 2, 4, 6, 5, 7));
        isNone("the second part stands behind", 2, net("(((a|b)*c)|(A*(e|E))) (B*C)", 0, 3, 4, 5, 1, 6, 2, 7));
    }

    private void rootsInOrder() {
        isNone("the par of a later root is the bit 2", 1,
                net("((a|b)*c) (B*C) (A*(e|E))", 0, 5, 1, 3, 2, 4, 6, 7));
        isNone("pars of roots that are cut", 4, ProofTest::withCutPars);
        isNone("pars of roots that came by a step", 1, () -> {
            Sidelessly house = withCutPars();
            house.step(0);
            return house;
        });
    }

    /** The par (a|b) of root 2 is the bad one; those of the roots 0 and 1 stand ahead of it till the step. */
    private static Sidelessly withCutPars() {
        Sidelessly house = Houses.withRoots("((e|E)*d)", "((E*e)|D)", "((a|b)*c)", "(B*C)", "(A*D)", "(d*e)", "E");
        house.cut(0, 1);
        return Houses.linking(house, 0, 1, 2, 12, 3, 14, 4, 15, 5, 13, 6, 11, 7, 9, 8, 10);
    }

    private void cuts() {
        isProof("a cut of two axioms", cutting(net("a A a A", 0, 1, 2, 3), 1, 2));
        isProof("a cut of times and par", cutting(net("A B (a*b) (A|B) (a*b)", 0, 2, 1, 3, 4, 6, 5, 7), 2, 3));
        isNone("an axiom cut with itself", 0, cutting(net("a A", 0, 1), 0, 1));
        isNone("a cut within one piece", 0, cutting(net("(a|A) a A a A", 0, 5, 1, 2, 3, 4), 1, 4));
        isNone("a cut that makes a ring", 0, cutting(net("(a*b) (A|B)", 0, 2, 1, 3), 0, 1));
        isNone("no cut between two pieces", 0, net("a A a A", 0, 1, 2, 3));
    }

    private static Check.Recipe cutting(Check.Recipe recipe, int one, int other) {
        return () -> {
            Sidelessly house = recipe.make();
            house.cut(one, other);
            return house;
        };
    }

    private static Sidelessly withPars(int pars, boolean isLinked) {
        Sidelessly house = new Sidelessly();
        int a = house.atom('a', false);
        int turned = house.atom('a', true);
        int plain = a;
        int joined = turned;
        for (int next = 0; next < pars; next++) {
            plain = house.par(plain, a);
            joined = house.times(joined, turned);
        }
        house.place(plain);
        house.place(joined);
        for (int leaf = 0; isLinked && leaf <= pars; leaf++) {
            house.link(leaf, pars + 1 + leaf);
        }
        return house;
    }

    private void manyPars() {
        check.tells("ten pars", true, () -> withPars(10, true), house -> house.byChoices());
        check.refuses("eleven pars", Check.UNSUPPORTED, () -> withPars(11, true), house -> house.byChoices());
        check.refuses("eleven pars, not linked", Check.UNSUPPORTED, () -> withPars(11, false),
                house -> house.byChoices());
        check.refuses("bad choice of eleven", Check.UNSUPPORTED, () -> withPars(11, true),
                house -> house.badChoice());
        check.refuses("bad choice of eleven, not linked", Check.UNSUPPORTED, () -> withPars(11, false),
                house -> house.badChoice());
        check.refuses("bad choice of ten, not linked", Check.NO_SUCH, () -> withPars(10, false),
                house -> house.badChoice());
        check.tells("ten pars, not linked", false, () -> withPars(10, false), house -> house.byChoices());
        check.refuses("eleven pars of several roots", Check.UNSUPPORTED, () -> {
            Sidelessly house = Houses.withChain(true, 6);
            house.place(6);
            house.place(6);
            house.place(2);
            return house;
        }, house -> house.byChoices());
        check.tells("a last bad choice", 1 << 9, ProofTest::withLateBadChoice, house -> house.badChoice());
    }

    /** Nine pars that matter not come ahead of the bad one. */
    private static Sidelessly withLateBadChoice() {
        Sidelessly house = new Sidelessly();
        house.place(Houses.told(house, "(((((A*(e|E))*(e|E))*(e|E))*(e|E))*(e|E))"));
        house.place(Houses.told(house, "(((((B*(e|E))*(e|E))*(e|E))*(e|E))*C)"));
        house.place(Houses.told(house, "((a|b)*c)"));
        for (int leaf = 1; leaf < 20; leaf += leaf == 9 ? 3 : 2) {
            house.link(leaf, leaf + 1);
        }
        return Houses.linking(house, 0, 21, 11, 22, 20, 23);
    }

    private void manyJoins() {
        check.tells("ten times and pars", true, () -> withPars(5, true), house -> house.byTrips());
        check.refuses("twelve times and pars", Check.UNSUPPORTED, () -> withPars(6, true), house -> house.byTrips());
        check.refuses("twelve, not linked", Check.UNSUPPORTED, () -> withPars(6, false), house -> house.byTrips());
        check.refuses("eleven times", Check.UNSUPPORTED, () -> {
            Sidelessly house = Houses.withChain(false, 12);
            house.place(12);
            return house;
        }, house -> house.byTrips());
        check.tells("ten times", false, () -> {
            Sidelessly house = Houses.withChain(false, 12);
            house.place(11);
            return house;
        }, house -> house.byTrips());
    }

    private void largeNets() {
        check.tells("eleven pars, by contraction", true, () -> withPars(11, true), house -> house.byContraction());
        check.tells("eleven pars, not linked", false, () -> withPars(11, false), house -> house.byContraction());
        check.tells("pars that contract one behind the other", true, () -> {
            Sidelessly house = new Sidelessly();
            Houses.placeAll(house, "(a|(A*(b|(B*(c|(C*(d|(D*(e|E)))))))))");
            return Houses.linking(house, 0, 1, 2, 3, 4, 5, 6, 7, 8, 9);
        }, house -> house.byContraction());
    }
}
