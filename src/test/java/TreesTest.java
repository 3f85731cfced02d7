/** Promises 27 and 28: what splits a proof, and how many trees it has. */
public final class TreesTest {
    private final Check check = new Check("TreesTest");

    public static void main(String[] args) {
        TreesTest test = new TreesTest();
        test.small();
        test.orders();
        test.crossings();
        test.chains();
        test.noProofs();
        test.tooMany();
        test.check.close();
    }

    private static Check.Recipe net(String roots, int... links) {
        return () -> Houses.linking(Houses.withRoots(roots.split(" ")), links);
    }

    private void has(String what, int splits, int trees, Check.Recipe recipe) {
        check.tells("splits of " + what, splits, recipe, house -> house.splits());
        check.tells("trees of " + what, trees, recipe, house -> house.trees());
    }

    private void small() {
        has("an axiom", 0, 1, net("a A", 0, 1));
        has("a par", 0, 1, net("(a|A)", 0, 1));
        has("a times", 1, 1, net("(a*b) A B", 0, 2, 1, 3));
        has("a times within a par", 0, 1, net("((a*b)|A) B", 0, 2, 1, 3));
        has("a times within a times", 1, 1, net("((a*b)*c) A B C", 0, 3, 1, 4, 2, 5));
        has("a par ahead of a times", 0, 1, net("(a*b) (A|B)", 0, 2, 1, 3));
        has("a times of pars", 1, 1, net("((a|A)*(b|B))", 0, 1, 2, 3));
        has("a cut", 1, 1, () -> {
            Sidelessly house = net("a A a A", 0, 1, 2, 3).make();
            house.cut(1, 2);
            return house;
        });
    }

    private void orders() {
        has("two times", 2, 2, net("A (a*b) (B*c) C", 0, 1, 2, 3, 4, 5));
        has("two pars, one of them ahead of a times", 0, 4, net("(a|B) ((A*(c*d))*b) (C|D)", 0, 2, 1, 5, 3, 6, 4, 7));
        has("a times and two pars, each one on its side", 1, 5,
                net("((a*b)*(c*d)) (A|B) (C|D)", 0, 4, 1, 5, 2, 6, 3, 7));
        has("a times and a par on one side of it", 1, 2, net("((a*b)*c) (A|B) C", 0, 3, 1, 4, 2, 5));
    }

    private void crossings() {
        has("a times with two pars across", 0, 2, net("((a*b)*(c*d)) (A|C) (B|D)", 0, 4, 1, 6, 2, 5, 3, 7));
        has("a times with a par across", 0, 1, net("(a*b) (A|B)", 0, 2, 1, 3));
        has("a cut of a times with a par", 1, 2, () -> {
            Sidelessly house = net("(A|B) (a*b) (A|B) (a*b)", 0, 2, 1, 3, 4, 6, 5, 7).make();
            house.cut(1, 2);
            return house;
        });
    }

    /** A chain of axioms, each one cut with the next one, has as many trees as there are ways to set brackets. */
    private static Sidelessly chain(int cuts) {
        Sidelessly house = Houses.withAxioms(cuts + 1);
        int joined = 0;
        for (int next = 1; next <= cuts; next++) {
            joined = house.joinCut(joined, 1, next, 0);
        }
        house.take(joined);
        return house;
    }

    private void chains() {
        int[] brackets = {1, 1, 2, 5, 14, 42, 132, 429, 1430, 4862, 16796};
        for (int joins = 0; joins <= 10; joins++) {
            int many = joins;
            has("a chain of cuts " + joins, joins, brackets[joins], () -> chain(many));
        }
        has("a chain of times", 2, 2, net("A (a*a) (A*a) A", 0, 1, 2, 3, 4, 5));
        has("a chain of three times", 3, 5, net("A (a*a) (A*a) (A*a) A", 0, 1, 2, 3, 4, 5, 6, 7));
        has("a times within a times, and one beside", 2, 3, net("((a*b)*c) A (B*d) C D", 0, 3, 1, 4, 2, 6, 5, 7));
    }

    private void noProofs() {
        for (Check.Recipe recipe : new Check.Recipe[] {Sidelessly::new, net("a A"), net("(a*A)", 0, 1),
            net("a A b B", 0, 1, 2, 3), net("(a*b) (A*B)", 0, 2, 1, 3)}) {
            check.refuses("splits of no proof", Check.UNSUPPORTED, recipe, house -> house.splits());
            check.refuses("trees of no proof", Check.UNSUPPORTED, recipe, house -> house.trees());
        }
    }

    private void tooMany() {
        check.refuses("eleven cuts", Check.UNSUPPORTED, () -> chain(11), house -> house.trees());
        check.tells("splits of eleven cuts", 11, () -> chain(11), house -> house.splits());
        check.refuses("five times and six pars", Check.UNSUPPORTED, TreesTest::withElevenRules, house -> house.trees());
        check.tells("it is a proof", true, TreesTest::withElevenRules, house -> house.byContraction());
    }

    private static Sidelessly withElevenRules() {
        return net("((((a|A)*(b|B))*((c|C)*(d|D)))*((e|E)*(a|A)))", 0, 1, 2, 3, 4, 5, 6, 7, 8, 9, 10, 11).make();
    }
}
