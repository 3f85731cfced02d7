/** Promises 23 to 28, and the terms of proofs, contraction, trips and trees: each sentence that names a boundary. */
public final class EdgesOfProofsTest {
    private final Check check = new Check("EdgesOfProofsTest");

    public static void main(String[] args) {
        EdgesOfProofsTest test = new EdgesOfProofsTest();
        test.withoutRoot();
        test.withOpenLeaf();
        test.connected();
        test.rings();
        test.twoEdges();
        test.lastChoices();
        test.lastChoiceOfTenPars();
        test.orderOfPars();
        test.tenPars();
        test.parsOfManyRoots();
        test.noBadChoice();
        test.contractionOfLarge();
        test.parThatIsThePointAlready();
        test.tenSwitches();
        test.parsAndTimesAlone();
        test.cutsAreNoSwitches();
        test.firstAndLastOfTen();
        test.turnsOfTimes();
        test.noProof();
        test.tenRules();
        test.splitsOfMany();
        test.whatSplits();
        test.check.close();
    }

    private static Check.Recipe net(String roots, int... links) {
        return () -> Houses.linking(Houses.withRoots(roots.split(" ")), links);
    }

    private static Check.Recipe cutting(Check.Recipe recipe, int... roots) {
        return () -> {
            Sidelessly house = recipe.make();
            for (int index = 0; index + 1 < roots.length; index += 2) {
                house.cut(roots[index], roots[index + 1]);
            }
            return house;
        };
    }

    private void isProof(String what, boolean due, Check.Recipe recipe) {
        check.tells(what + ", by choices", due, recipe, house -> house.byChoices());
        check.tells(what + ", by contraction", due, recipe, house -> house.byContraction());
        check.tells(what + ", by trips", due, recipe, house -> house.byTrips());
    }

    /** It is no proof, and has no bad choice either, since a leaf is open or there is no root. */
    private void isOpen(String what, Check.Recipe recipe) {
        isProof(what, false, recipe);
        check.refuses(what + ", bad choice", Check.NO_SUCH, recipe, house -> house.badChoice());
        check.refuses(what + ", splits", Check.UNSUPPORTED, recipe, house -> house.splits());
        check.refuses(what + ", trees", Check.UNSUPPORTED, recipe, house -> house.trees());
    }

    private void isBad(String what, int choice, Check.Recipe recipe) {
        isProof(what, false, recipe);
        check.tells(what + ", bad choice", choice, recipe, house -> house.badChoice());
        check.refuses(what + ", splits", Check.UNSUPPORTED, recipe, house -> house.splits());
        check.refuses(what + ", trees", Check.UNSUPPORTED, recipe, house -> house.trees());
    }

    private void withoutRoot() {
        check.sentence("The net is a proof if it has a root");
        isOpen("nothing", Sidelessly::new);
        isOpen("formulas alone", Houses::withAtoms);
        isOpen("derivations alone", () -> Houses.withAxioms(24));
        isOpen("a cleared bench", () -> {
            Sidelessly house = net("a A", 0, 1).make();
            house.clear();
            return house;
        });
        isProof("the fewest roots", true, net("(a|A)", 0, 1));
        isProof("two roots", true, net("a A", 0, 1));
    }

    private void withOpenLeaf() {
        check.sentence("all leaves that are left are linked");
        isOpen("one leaf", net("a"));
        isOpen("two open leaves", net("a A"));
        isOpen("a par of two open leaves", net("(a|A)"));
        isOpen("one leaf of three", net("a A a", 0, 1));
        isOpen("two of four", net("(a*b) (A|B)", 0, 2));
        isOpen("leaves of a cut", cutting(net("a A a A", 0, 1), 1, 2));
        isOpen("all but the last two of 24", () -> Houses.linking(starOfAxioms(11), 1, 0));
        Sidelessly gone = cutting(net("a A a A", 0, 1, 2, 3), 1, 2).make();
        gone.step(0);
        check.same("leaves that are gone need no link", true, gone.byChoices());
        check.same("by contraction", true, gone.byContraction());
        check.same("by trips", true, gone.byTrips());
        gone.unlink(0);
        check.same("those that are left do", false, gone.byChoices() || gone.byContraction() || gone.byTrips());
    }

    /** 2 leaves a and A, not linked, and a times of as many as there are more pairs. */
    private static Sidelessly starOfAxioms(int pairs) {
        Sidelessly house = Houses.withRoots("a", "A", "((((((((((a*a)*a)*a)*a)*a)*a)*a)*a)*a)*a)");
        for (int pair = 0; pair < pairs; pair++) {
            house.place(1);
            if (pair < pairs - 1) {
                house.link(2 + pair, 13 + pair);
            }
        }
        return house;
    }

    private void connected() {
        check.sentence("is connected");
        isProof("one piece", true, net("a A", 0, 1));
        isBad("two pieces", 0, net("a A a A", 0, 1, 2, 3));
        isBad("twelve pieces", 0, () -> {
            Sidelessly house = Houses.withRoots("a A a A a A a A a A a A a A a A a A a A a A a A".split(" "));
            for (int leaf = 0; leaf < 24; leaf += 2) {
                house.link(leaf, leaf + 1);
            }
            return house;
        });
        isProof("two pieces that a cut joins", true, cutting(net("a A a A", 0, 1, 2, 3), 1, 2));
        isBad("three pieces, two of which a cut joins", 0, cutting(net("a A a A b B", 0, 1, 2, 3, 4, 5), 1, 2));
        isBad("a par with a part in each of two pieces", 0, net("(a|b) A B", 0, 2, 1, 3));
    }

    private void rings() {
        check.sentence("has no ring");
        isBad("the smallest ring of a times", 0, net("(a*A)", 0, 1));
        isProof("no ring in a par", true, net("(a|A)", 0, 1));
        isBad("a ring of two times", 0, net("(a*b) (A*B)", 0, 2, 1, 3));
        isProof("no ring of a times and a par", true, net("(a*b) (A|B)", 0, 2, 1, 3));
        isBad("a ring of a cut and a link of parts", 0, cutting(net("(a*b) (A|B)", 0, 2, 1, 3), 0, 1));
        isBad("a ring for one choice alone", 1, net("(A*(b|a)) B", 0, 2, 1, 3));
        isBad("a ring for the other one alone", 0, net("(A*(a|b)) B", 0, 1, 2, 3));
        isBad("a ring in a piece that is not all", 0, net("(a*A) b B", 0, 1, 2, 3));
    }

    private void twoEdges() {
        check.sentence("two edges between the same two being one, too");
        isBad("a link and a cut", 0, cutting(net("a A", 0, 1), 0, 1));
        isBad("the same, cut the other way round", 0, cutting(net("a A", 0, 1), 1, 0));
        isBad("the same beside a piece", 0, cutting(net("a A b B", 0, 1, 2, 3), 0, 1));
        isProof("a link and a cut of others", true, cutting(net("a A a A", 0, 1, 2, 3), 1, 2));
    }

    /**
     * A ring through so many pars, all of them choosing the second part; the first parts are linked to one times. So
     * each other choice is good.
     */
    private static Sidelessly withRing(int pars) {
        StringBuilder joined = new StringBuilder("B");
        Sidelessly house = new Sidelessly();
        for (int par = 0; par < pars; par++) {
            house.place(Houses.told(house, "(A*(b|a))"));
            if (par > 0) {
                joined.insert(0, "(B*").append(")");
            }
        }
        house.place(Houses.told(house, joined.toString()));
        for (int par = 0; par < pars; par++) {
            house.link(3 * par + 2, 3 * ((par + 1) % pars));
            house.link(3 * par + 1, 3 * pars + par);
        }
        return house;
    }

    private void lastChoices() {
        check.sentence("for each choice of one part for each par .. told by bits, the first par being 1");
        for (int pars = 1; pars <= 6; pars++) {
            int many = pars;
            check.tells("all bits of " + pars, (1 << pars) - 1, () -> withRing(many), house -> house.badChoice());
            check.tells("by choices", false, () -> withRing(many), house -> house.byChoices());
            check.tells("by contraction", false, () -> withRing(many), house -> house.byContraction());
        }
        for (int pars = 1; pars <= 3; pars++) {
            int many = pars;
            check.tells("by trips", false, () -> withRing(many), house -> house.byTrips());
        }
    }

    /** Of ten pars those of the bits 7 and 9 have to choose the second part for a ring; the others matter not. */
    private static Sidelessly withRingOfTen() {
        Sidelessly house = Houses.withRoots("((((((B*B)*(e|E))*(e|E))*(e|E))*(e|E))*(e|E))",
                "(((A*(e|E))*(e|E))*(b|a))", "((A*(e|E))*(b|a))");
        for (int leaf : new int[] {2, 4, 6, 8, 10, 13, 15, 20}) {
            house.link(leaf, leaf + 1);
        }
        return Houses.linking(house, 17, 0, 22, 1, 18, 19, 23, 12);
    }

    private void lastChoiceOfTenPars() {
        check.sentence("a choice is told by bits, the first par being 1, the bit being 1 for the second part");
        check.tells("bits 7 and 9 of ten pars", 640, EdgesOfProofsTest::withRingOfTen, house -> house.badChoice());
        check.tells("it is none, by choices", false, EdgesOfProofsTest::withRingOfTen, house -> house.byChoices());
        check.tells("it is none, by contraction", false, EdgesOfProofsTest::withRingOfTen,
                house -> house.byContraction());
    }

    private void orderOfPars() {
        check.sentence("Pars go by roots, in one a formula ahead of its parts, the first part ahead of the second one");
        isBad("the first root", 1, net("(A*(b|a)) (B*(c|C))", 0, 2, 1, 3, 4, 5));
        isBad("the second root", 2, net("((c|C)*B) (A*(b|a))", 0, 1, 2, 4, 3, 5));
        isBad("ahead of its parts", 1, net("(A*((b*(c|C))|a)) B", 0, 4, 1, 5, 2, 3));
        isBad("behind the one of which it is a part", 2, net("((A*(b|a))|c) (B*C)", 0, 2, 1, 4, 3, 5));
        isBad("the first part ahead", 1, net("((A*(b|a))*(c|C)) B", 0, 2, 1, 5, 3, 4));
        isBad("the second part behind", 2, net("((c|C)*(A*(b|a))) B", 0, 1, 2, 4, 3, 5));
    }

    /** A chain of so many pars and one of so many times, with the links between both, if the numbers are alike. */
    private static Sidelessly withChains(int pars, int times, boolean isLinked) {
        Sidelessly house = new Sidelessly();
        int a = house.atom('a', false);
        int turned = house.atom('a', true);
        int plain = a;
        int other = turned;
        for (int next = 0; next < pars; next++) {
            plain = house.par(plain, a);
        }
        for (int next = 0; next < times; next++) {
            other = house.times(other, turned);
        }
        house.place(plain);
        house.place(other);
        for (int leaf = 0; isLinked && leaf <= pars; leaf++) {
            house.link(leaf, pars + 1 + leaf);
        }
        return house;
    }

    private void tenPars() {
        check.sentence("Throws UnsupportedOperationException if there are more than 10 pars");
        for (int pars = 9; pars <= 11; pars++) {
            int many = pars;
            for (boolean isLinked : new boolean[] {false, true}) {
                check.answers("byChoices of " + pars, pars > 10 ? Check.UNSUPPORTED : Check.NOTHING, isLinked,
                        () -> withChains(many, many, isLinked), house -> house.byChoices());
                check.refuses("badChoice of " + pars, pars > 10 ? Check.UNSUPPORTED : Check.NO_SUCH,
                        () -> withChains(many, many, isLinked), house -> house.badChoice());
            }
        }
        check.tells("bad choice of ten", 0, () -> linkedWithinTimes(10), house -> house.badChoice());
        check.refuses("bad choice of eleven", Check.UNSUPPORTED, () -> linkedWithinTimes(11),
                house -> house.badChoice());
    }

    /** Axioms side by side, each one by a par; the first one by a times. */
    private static Sidelessly linkedWithinTimes(int pars) {
        Sidelessly house = Houses.withRoots("(a*A)");
        for (int par = 0; par < pars; par++) {
            Houses.placeAll(house, "(a|A)");
        }
        for (int leaf = 0; leaf < 2 * pars + 2; leaf += 2) {
            house.link(leaf, leaf + 1);
        }
        return house;
    }

    private void parsOfManyRoots() {
        check.sentence("if there are more than 10 pars: those of all roots, and of roots that are cut");
        String nine = "((a|a)|(a|a)) ((a|a)|(a|a)) ((a|a)|a) (a|(A*(b*B)))";
        check.tells("ten pars", false, net(nine + " (a|a) (b*b)"), house -> house.byChoices());
        check.refuses("bad choice of ten pars", Check.NO_SUCH, net(nine + " (a|a) (b*b)"),
                house -> house.badChoice());
        check.refuses("eleven pars", Check.UNSUPPORTED, net(nine + " (a|a) (b|b)"), house -> house.byChoices());
        check.refuses("bad choice of eleven pars", Check.UNSUPPORTED, net(nine + " (a|a) (b|b)"),
                house -> house.badChoice());
        Check.Recipe cut = cutting(() -> withChains(5, 5, false), 0, 1);
        check.tells("five pars of a cut", false, cut, house -> house.byChoices());
        Check.Recipe full = cutting(() -> withChains(11, 11, false), 0, 1);
        check.refuses("eleven pars of a cut", Check.UNSUPPORTED, full, house -> house.byChoices());
        check.tells("ten pars behind a step", false, () -> {
            Sidelessly house = full.make();
            house.step(0);
            return house;
        }, house -> house.byChoices());
    }

    private void noBadChoice() {
        check.sentence("Throws NoSuchElementException if the net is a proof, has no root, or a leaf is not linked");
        check.refuses("a proof", Check.NO_SUCH, net("(a|A)", 0, 1), house -> house.badChoice());
        check.refuses("a proof without pars", Check.NO_SUCH, net("a A", 0, 1), house -> house.badChoice());
        check.refuses("no root", Check.NO_SUCH, Sidelessly::new, house -> house.badChoice());
        check.refuses("an open leaf", Check.NO_SUCH, net("a A a", 0, 1), house -> house.badChoice());
        check.refuses("an open leaf beside a ring", Check.NO_SUCH, net("(a*A) a", 0, 1), house -> house.badChoice());
        check.tells("no pars, two pieces", 0, net("a A a A", 0, 1, 2, 3), house -> house.badChoice());
    }

    private void contractionOfLarge() {
        check.sentence("Tells whether the net is a proof, by contraction: however many pars there are");
        check.tells("eleven pars and times", true, () -> withChains(11, 11, true), house -> house.byContraction());
        check.tells("not linked", false, () -> withChains(11, 11, false), house -> house.byContraction());
        check.tells("a full bench of cuts", true, Houses::full, house -> house.byContraction());
        check.tells("twelve pars", false, () -> linkedWithinTimes(11), house -> house.byContraction());
        check.sentence("Pars become one with their parts, and one point is left, to which all pars have become one");
        check.tells("the last par makes the first one one", true,
                net("(a|(A*(b|(B*(c|(C*(d|(D*(e|E)))))))))", 0, 1, 2, 3, 4, 5, 6, 7, 8, 9),
                house -> house.byContraction());
        check.tells("the first par makes the last one one", true,
                net("(((((((((e|E)*D)|d)*C)|c)*B)|b)*A)|a)", 0, 1, 2, 3, 4, 5, 6, 7, 8, 9),
                house -> house.byContraction());
        check.tells("all pars are one, but two points are left", false, net("(a|A) (b|B)", 0, 1, 2, 3),
                house -> house.byContraction());
        check.tells("a par that is not one", false, net("(a|b) A B", 0, 2, 1, 3), house -> house.byContraction());
    }

    private void parThatIsThePointAlready() {
        check.sentence("A par becomes one with its parts, if both are one point and it is another one.");
        Check.Recipe ring = net("(((a*c)|A)*C)", 0, 2, 1, 3);
        isBad("the par is one with its parts by the times above it", 0, ring);
        Check.Recipe other = net("((A|(a*c))*C)", 0, 1, 2, 3);
        isBad("the same, its parts in turn", 0, other);
        isProof("the par is another one", true, net("(((a*c)|A)*b) C B", 0, 2, 1, 4, 3, 5));
    }

    private void tenSwitches() {
        check.sentence("Throws UnsupportedOperationException if there are more than 10 times and pars");
        for (int pars = 0; pars <= 11; pars++) {
            for (int joins = Math.max(9, pars); joins <= 11; joins++) {
                int many = pars;
                int times = joins - pars;
                boolean isLinked = pars == times;
                check.answers("byTrips of " + pars + " pars and " + times + " times",
                        joins > 10 ? Check.UNSUPPORTED : Check.NOTHING, isLinked,
                        () -> withChains(many, times, isLinked), house -> house.byTrips());
            }
        }
    }

    private void parsAndTimesAlone() {
        check.sentence("if there are more than 10 pars: times do not count; more than 10 times and pars: both count");
        check.tells("byChoices of ten pars and eleven times", false, () -> withChains(10, 11, false),
                house -> house.byChoices());
        check.tells("byChoices of eleven times", false, () -> withChains(0, 11, false), house -> house.byChoices());
        check.refuses("byTrips of eleven times", Check.UNSUPPORTED, () -> withChains(0, 11, false),
                house -> house.byTrips());
        check.refuses("byTrips of eleven pars", Check.UNSUPPORTED, () -> withChains(11, 0, false),
                house -> house.byTrips());
        check.refuses("byTrips of a proof with twelve", Check.UNSUPPORTED, () -> withChains(6, 6, true),
                house -> house.byTrips());
        check.tells("the same by choices", true, () -> withChains(6, 6, true), house -> house.byChoices());
    }

    private void cutsAreNoSwitches() {
        check.sentence("if there are more than 10 times and pars: cuts do not count");
        check.tells("byTrips of eleven cuts", true, Houses::full, house -> house.byTrips());
        check.tells("byChoices of eleven cuts", true, Houses::full, house -> house.byChoices());
        check.tells("byTrips of ten joins and a cut", false, cutting(() -> withChains(5, 5, false), 0, 1),
                house -> house.byTrips());
    }

    /**
     * The par (b|a) is cut with a times: there is a ring if it chooses the second part. Four pairs of a par and a times
     * matter not, and stand behind the par or ahead of it.
     */
    private static Sidelessly withBadPar(boolean isLast) {
        String ring = "(b|a)";
        String filler = "(B*((e|E)*((e|E)*((e|E)*(e|E)))))";
        Sidelessly house = isLast ? Houses.withRoots(filler, "(B*A)", ring, "b")
                : Houses.withRoots(ring, "(B*A)", filler, "b");
        house.cut(isLast ? 1 : 0, isLast ? 2 : 1);
        int pairs = isLast ? 1 : 5;
        for (int leaf = pairs; leaf < pairs + 8; leaf += 2) {
            house.link(leaf, leaf + 1);
        }
        return isLast ? Houses.linking(house, 11, 0, 12, 10, 9, 13) : Houses.linking(house, 0, 4, 1, 3, 2, 13);
    }

    private void firstAndLastOfTen() {
        check.sentence("for all ways to turn one trip goes through all formulas: turns of the first and the last of "
                + "ten");
        isBad("the first one of ten is the bad par", 1, () -> withBadPar(false));
        isBad("the last one of ten is the bad par", 16, () -> withBadPar(true));
        check.sentence("for all ways to turn: eleven are too many, but isTrue holds");
        for (int pars = 4; pars <= 6; pars++) {
            int many = pars;
            check.refuses("byTrips", Check.UNSUPPORTED, () -> withRing(many), house -> house.byTrips());
            check.tells("isTrue", true, () -> withRing(many), house -> house.isTrue());
            check.tells("isTrue, the times ahead of the ring", true, () -> withRingBehindTimes(many),
                    house -> house.isTrue());
        }
        check.refuses("eleven pars", Check.UNSUPPORTED, EdgesOfProofsTest::withEleventhBad,
                house -> house.byChoices());
        check.refuses("first bad choice of eleven", Check.UNSUPPORTED, EdgesOfProofsTest::withEleventhBad,
                house -> house.badChoice());
        check.tells("the eleventh par alone is bad", false, EdgesOfProofsTest::withEleventhBad,
                house -> house.byContraction());
        check.tells("isTrue", true, EdgesOfProofsTest::withEleventhBad, house -> house.isTrue());
    }

    private static Sidelessly withRingBehindTimes(int pars) {
        StringBuilder joined = new StringBuilder("B");
        for (int par = 1; par < pars; par++) {
            joined.insert(0, "(B*").append(")");
        }
        Sidelessly house = Houses.withRoots(joined.toString());
        for (int par = 0; par < pars; par++) {
            Houses.placeAll(house, "(A*(b|a))");
        }
        for (int par = 0; par < pars; par++) {
            house.link(pars + 3 * par + 2, pars + 3 * ((par + 1) % pars));
            house.link(pars + 3 * par + 1, par);
        }
        return house;
    }

    /** Eleven pars, the last one of them having a ring by its second part. */
    private static Sidelessly withEleventhBad() {
        StringBuilder times = new StringBuilder("B");
        StringBuilder pars = new StringBuilder("(A*(b|a))");
        for (int next = 0; next < 9; next++) {
            times.insert(0, "(").append("*C)");
            pars.insert(0, "(").append("|c)");
        }
        Sidelessly house = Houses.withRoots("(" + times + "*(e|E))", pars.toString());
        for (int leaf = 1; leaf <= 9; leaf++) {
            house.link(leaf, 14 + leaf);
        }
        return Houses.linking(house, 0, 13, 10, 11, 12, 14);
    }

    /** Two rings that share a way: for some turns of the times one trip goes through all, for others not. */
    private void turnsOfTimes() {
        check.sentence("At a times that is turned to the first part .. turned to the second part likewise");
        isBad("two rings", 0, net("((a*b)*(A*B))", 0, 2, 1, 3));
        isBad("two rings crossed", 0, net("((a*b)*(B*A))", 0, 3, 1, 2));
        isBad("two rings, the parts in turn", 0, net("((b*a)*(A*B))", 0, 3, 1, 2));
        isBad("two rings by a cut", 0, cutting(net("(a*(b*c)) (A|(B|C)) (A*(B*C)) a b c",
                0, 6, 1, 7, 2, 8, 3, 9, 4, 10, 5, 11), 0, 1));
    }

    private void noProof() {
        check.sentence("Throws UnsupportedOperationException if the net is no proof");
        for (Check.Recipe recipe : new Check.Recipe[] {Sidelessly::new, net("a A"), net("a A a", 0, 1),
            net("(a*A)", 0, 1), net("a A a A", 0, 1, 2, 3), () -> withRing(3), () -> withChains(11, 11, false)}) {
            check.refuses("splits", Check.UNSUPPORTED, recipe, house -> house.splits());
            check.refuses("trees", Check.UNSUPPORTED, recipe, house -> house.trees());
        }
        check.tells("splits of the least proof", 0, net("a A", 0, 1), house -> house.splits());
        check.tells("trees of the least proof", 1, net("a A", 0, 1), house -> house.trees());
    }

    /** A chain of axioms with so many cuts; its two ends are joined by a par, or not. */
    private static Sidelessly withCuts(int cuts, boolean hasPar) {
        Sidelessly house = Houses.withAxioms(cuts + 1);
        int joined = 0;
        for (int next = 1; next <= cuts; next++) {
            joined = house.joinCut(joined, 1, next, 0);
        }
        house.take(hasPar ? house.joinPar(joined, 0, 1) : joined);
        return house;
    }

    private void tenRules() {
        check.sentence("or there are more than 10 times, pars and cuts");
        int[] brackets = {1, 1, 2, 5, 14, 42, 132, 429, 1430, 4862, 16796};
        for (int cuts = 8; cuts <= 11; cuts++) {
            int many = cuts;
            check.answers(cuts + " cuts", cuts > 10 ? Check.UNSUPPORTED : Check.NOTHING, brackets[Math.min(10, cuts)],
                    () -> withCuts(many, false), house -> house.trees());
            check.answers(cuts + " cuts and a par", cuts > 9 ? Check.UNSUPPORTED : Check.NOTHING,
                    brackets[Math.min(10, cuts)], () -> withCuts(many, true), house -> house.trees());
        }
        check.tells("five pars and five times", brackets[5], () -> withChains(5, 5, true), house -> house.trees());
        check.refuses("six pars and six times", Check.UNSUPPORTED, () -> withChains(6, 6, true),
                house -> house.trees());
        check.tells("ten times", 1, () -> withStar(10), house -> house.trees());
        check.refuses("eleven times", Check.UNSUPPORTED, () -> withStar(11), house -> house.trees());
        check.refuses("six pars and five times", Check.UNSUPPORTED,
                net("((((a|A)*(b|B))*((c|C)*(d|D)))*((e|E)*(a|A)))", 0, 1, 2, 3, 4, 5, 6, 7, 8, 9, 10, 11),
                house -> house.trees());
        check.tells("five pars and four times", 1, () -> withPairs(0), house -> house.trees());
        check.tells("five pars, four times and a cut", 1, () -> withPairs(1), house -> house.trees());
        check.refuses("five pars, four times and two cuts", Check.UNSUPPORTED, () -> withPairs(2),
                house -> house.trees());
    }

    /** A chain of so many times, each of its atoms linked to a conclusion of its own. */
    private static Sidelessly withStar(int times) {
        Sidelessly house = withChains(0, times, false);
        house.clear();
        house.place(times + 1);
        for (int leaf = 0; leaf <= times; leaf++) {
            house.place(0);
            house.link(leaf, times + 1 + leaf);
        }
        return house;
    }

    /** The times of five pars, of which the first one is of a chain of axioms with so many cuts. */
    private static Sidelessly withPairs(int cuts) {
        Sidelessly house = Houses.withAxioms(1);
        int chain = 0;
        for (int cut = 0; cut < cuts; cut++) {
            chain = house.joinCut(chain, 1, house.axiom(0), 0);
        }
        int joined = house.joinPar(chain, 0, 1);
        for (int pair = 1; pair < 5; pair++) {
            joined = house.joinTimes(joined, 0, house.joinPar(house.axiom(0), 0, 1), 0);
        }
        house.take(joined);
        return house;
    }

    private void splitsOfMany() {
        check.sentence("Returns how many times and cuts split the proof: however many there are");
        check.tells("eleven cuts", 11, () -> withCuts(11, false), house -> house.splits());
        check.tells("eleven cuts of a full house", 11, Houses::full, house -> house.splits());
        check.tells("the last one of eleven times", 1, () -> withStar(11), house -> house.splits());
        check.tells("none of ten cuts that a par holds together", 0, () -> withCuts(10, true), house -> house.splits());
        check.tells("none of eleven pars and times", 0, () -> withChains(11, 11, true), house -> house.splits());
    }

    private void whatSplits() {
        check.sentence("A conclusion that is a times splits a proof if without it its two parts are in unlike pieces, "
                + "all edges of pars being there; a cut likewise.");
        check.tells("a times", 1, net("(a*b) A B", 0, 2, 1, 3), house -> house.splits());
        check.tells("a times that a par holds together", 0, net("(a*b) (A|B)", 0, 2, 1, 3), house -> house.splits());
        check.tells("a times that is a part", 0, net("((a*b)|A) B", 0, 2, 1, 3), house -> house.splits());
        check.tells("a times of which one is a part", 1, net("((a*b)*c) A B C", 0, 3, 1, 4, 2, 5),
                house -> house.splits());
        check.tells("a cut", 1, cutting(net("a A a A", 0, 1, 2, 3), 1, 2), house -> house.splits());
        check.tells("a cut that a par holds together", 0, cutting(net("(a*b) (A|B) a A", 0, 5, 4, 2, 1, 3), 2, 3),
                house -> house.splits());
        check.tells("a times that is cut", 1, cutting(net("(A|B) (a*b) (A|B) (a*b)", 0, 2, 1, 3, 4, 6, 5, 7), 1, 2),
                house -> house.splits());
    }
}
