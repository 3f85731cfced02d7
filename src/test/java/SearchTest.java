/** Promises 42 and 43: all proofs of what stands on the bench. */
public final class SearchTest {
    private final Check check = new Check("SearchTest");

    public static void main(String[] args) {
        SearchTest test = new SearchTest();
        test.counts();
        test.whateverIsLinked();
        test.orders();
        test.withoutProof();
        test.refused();
        test.behindSteps();
        test.check.close();
    }

    private static Check.Recipe bench(String... roots) {
        return () -> Houses.withRoots(roots);
    }

    private static String links(Sidelessly house, int leaves) {
        StringBuilder text = new StringBuilder();
        for (int leaf = 0; leaf < leaves; leaf++) {
            text.append(leaf == 0 ? "" : " ").append(house.linked(leaf));
        }
        return text.toString();
    }

    private void counts() {
        check.tells("nothing there", 0, Sidelessly::new, house -> house.proofs());
        check.tells("an odd number of leaves", 0, bench("a", "A", "a"), house -> house.proofs());
        check.tells("one atom", 0, bench("a"), house -> house.proofs());
        check.tells("an axiom", 1, bench("a", "A"), house -> house.proofs());
        check.tells("a par of it", 1, bench("(A|a)"), house -> house.proofs());
        check.tells("a times of it", 0, bench("(A*a)"), house -> house.proofs());
        check.tells("other letters", 0, bench("a", "B"), house -> house.proofs());
        check.tells("times and par", 2, bench("(a*a)", "(A|A)"), house -> house.proofs());
        check.tells("two pieces", 0, bench("(a|A)", "(a|A)"), house -> house.proofs());
        check.tells("a times of axioms", 1, bench("((a|A)*(a|A))"), house -> house.proofs());
        check.tells("five plain and five turned", 120, SearchTest::withFivePairs, house -> house.proofs());
        check.tells("five letters", 1, bench("((a*b)*((c*d)*e))", "(((A|B)|C)|(D|E))"), house -> house.proofs());
    }

    /** A times of five atoms, and their duals alone. */
    private static Sidelessly withFivePairs() {
        return Houses.withRoots("((a*a)*((a*a)*a))", "A", "A", "A", "A", "A");
    }

    private void whateverIsLinked() {
        Check.Recipe linked = () -> Houses.linking(Houses.withRoots("(a*a)", "(A|A)"), 0, 3);
        check.tells("with a link", 2, linked, house -> house.proofs());
        Sidelessly house = linked.make();
        check.same("the first proof", 2, house.proof(0));
        check.same("links of it", "2 3 0 1", links(house, 4));
        check.same("the second proof", 2, house.proof(1));
        check.same("links of it", "3 2 1 0", links(house, 4));
        check.tells("with a ring linked", 1, () -> Houses.linking(Houses.withRoots("((a|A)*(a|A))"), 0, 3, 1, 2),
                in -> in.proofs());
    }

    private void orders() {
        Sidelessly house = withFivePairs();
        check.same("five links", 5, house.proof(0));
        check.same("the first one of all", "5 6 7 8 9 0 1 2 3 4", links(house, 10));
        check.same("five links", 5, house.proof(119));
        check.same("the last one of all", "9 8 7 6 5 4 3 2 1 0", links(house, 10));
        house.proof(1);
        check.same("the second one of all", "5 6 7 9 8 0 1 2 4 3", links(house, 10));
        house.proof(24);
        check.same("the first one with another leaf", "6 5 7 8 9 1 0 2 3 4", links(house, 10));
        check.same("it is a proof", true, house.byChoices());
        Sidelessly mixed = Houses.withRoots("(A|a)", "((a|A)*(A*a))", "(a|A)");
        StringBuilder all = new StringBuilder();
        for (int index = 0; index < mixed.proofs(); index++) {
            mixed.proof(index);
            all.append(links(mixed, 8)).append('/');
        }
        check.same("leaves of several roots", "5 4 3 2 1 0 7 6/".length() * mixed.proofs(), all.length());
        String[] ways = all.toString().split("/");
        for (int index = 1; index < ways.length; index++) {
            check.same("each way stands behind the one ahead", true, ways[index - 1].compareTo(ways[index]) < 0);
        }
    }

    private void withoutProof() {
        for (int bad : new int[] {-1, 2, 3, 1000, Integer.MIN_VALUE, Integer.MAX_VALUE}) {
            check.refuses("proof " + bad, Check.NO_SUCH,
                    () -> Houses.linking(Houses.withRoots("(a*a)", "(A|A)"), 0, 3), house -> house.proof(bad));
        }
        check.refuses("no proof of nothing", Check.NO_SUCH, Sidelessly::new, house -> house.proof(0));
        check.refuses("no proof of an odd number", Check.NO_SUCH, bench("a"), house -> house.proof(0));
        check.refuses("no proof of a times", Check.NO_SUCH, () -> Houses.linking(Houses.withRoots("(a*A)"), 0, 1),
                house -> house.proof(0));
        check.refuses("no proof 120", Check.NO_SUCH, SearchTest::withFivePairs, house -> house.proof(120));
    }

    private void refused() {
        Check.Recipe cut = () -> {
            Sidelessly house = Houses.withRoots("a", "A", "a", "A");
            house.cut(1, 2);
            return house;
        };
        check.refuses("proofs with a cut", Check.UNSUPPORTED, cut, house -> house.proofs());
        check.refuses("a proof with a cut", Check.UNSUPPORTED, cut, house -> house.proof(0));
        check.refuses("no proof with a cut", Check.UNSUPPORTED, cut, house -> house.proof(-1));
        Check.Recipe eleven = bench("((a|A)*((a|A)*(a|A)))", "((a|A)*(a|A))", "a");
        check.refuses("proofs with eleven leaves", Check.UNSUPPORTED, eleven, house -> house.proofs());
        check.refuses("a proof with eleven leaves", Check.UNSUPPORTED, eleven, house -> house.proof(0));
        check.refuses("no proof with eleven leaves", Check.UNSUPPORTED, eleven, house -> house.proof(-1));
    }

    /** Leaves that are gone do not count: ten are left of twelve, 1 and 2 being gone. */
    private void behindSteps() {
        Check.Recipe stepped = () -> {
            Sidelessly house = Houses.withRoots("A", "a", "A", "a", "((a*A)*((b|B)*((c|C)*(d|D))))");
            Houses.linking(house, 0, 1, 2, 3);
            house.cut(1, 2);
            house.step(0);
            return house;
        };
        check.tells("ten leaves are left", 1, stepped, house -> house.proofs());
        Sidelessly house = stepped.make();
        check.same("five links", 5, house.proof(0));
        check.same("of the one that is left to the times", 4, house.linked(0));
        check.same("of the other one", 5, house.linked(3));
        check.same("of the last ones", 10, house.linked(11));
        check.same("leaves that are gone stay so", "throws IndexOutOfBoundsException",
                Check.answerOf(() -> house.linked(1)));
        check.same("it is a proof", true, house.byTrips());
    }
}
