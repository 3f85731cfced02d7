/** Promise 47: isTrue holds in each state that calls can lead to, and changes nothing. */
public final class TruthTest {
    private final Check check = new Check("TruthTest");

    public static void main(String[] args) {
        TruthTest test = new TruthTest();
        test.withoutProof();
        test.withProof();
        test.withCuts();
        test.beyondLimits();
        test.withPoints();
        test.whileReducing();
        test.check.close();
    }

    private static Check.Recipe net(String roots, int... links) {
        return () -> Houses.linking(Houses.withRoots(roots.split(" ")), links);
    }

    private void holds(String what, Check.Recipe recipe) {
        check.tells(what, true, recipe, house -> house.isTrue());
    }

    private void withoutProof() {
        holds("nothing", Sidelessly::new);
        holds("formulas alone", Houses::withAtoms);
        holds("open leaves", net("a A b"));
        holds("some open leaves", net("a A b", 0, 1));
        holds("a ring", net("(a*A)", 0, 1));
        holds("two pieces", net("(a|A) b B", 0, 1, 2, 3));
        holds("two times", net("(a*b) (A*B)", 0, 2, 1, 3));
        holds("an axiom cut with itself", () -> {
            Sidelessly house = net("a A", 0, 1).make();
            house.cut(0, 1);
            return house;
        });
    }

    private void withProof() {
        holds("an axiom", net("a A", 0, 1));
        holds("times and par", net("(a*b) (A|B)", 0, 2, 1, 3));
        holds("a times of axioms", net("((a|A)*(b|B))", 0, 1, 2, 3));
        holds("a star", () -> {
            Sidelessly house = Houses.withAxioms(3);
            house.joinTimes(house.joinTimes(0, 0, 1, 0), 0, 2, 1);
            house.take(4);
            return house;
        });
    }

    /** Times and par of two axioms each, cut with each other. */
    private static Sidelessly withJoinsCut() {
        Sidelessly house = Houses.withAxioms(4);
        house.joinPar(house.joinTimes(0, 0, 1, 0), 0, 1);
        house.joinPar(house.joinTimes(2, 0, 3, 0), 0, 1);
        house.joinCut(5, 0, 7, 1);
        house.take(8);
        return house;
    }

    private void withCuts() {
        holds("joins that are cut", TruthTest::withJoinsCut);
        holds("the same behind a step", () -> {
            Sidelessly house = withJoinsCut();
            house.step(0);
            return house;
        });
        holds("the same without a link", () -> {
            Sidelessly house = withJoinsCut();
            house.unlink(2);
            return house;
        });
        holds("a cut within one piece", () -> {
            Sidelessly house = net("(a*b) (A|B)", 0, 2, 1, 3).make();
            house.cut(0, 1);
            return house;
        });
    }

    private void beyondLimits() {
        holds("eleven pars and eleven times", () -> large(true));
        holds("the same without links", () -> large(false));
        holds("many rows", () -> {
            Sidelessly house = large(true);
            house.points('a', 3);
            return house;
        });
        holds("twelve axioms and eleven cuts", () -> {
            Sidelessly house = Houses.withAxioms(12);
            int joined = 0;
            for (int next = 1; next < 12; next++) {
                joined = house.joinCut(joined, 1, next, 0);
            }
            house.take(joined);
            return house;
        });
    }

    private static Sidelessly large(boolean isLinked) {
        Sidelessly house = Houses.withChain(true, 12);
        house.place(12);
        house.place(house.dual(12));
        for (int leaf = 0; isLinked && leaf < 12; leaf++) {
            house.link(leaf, 12 + leaf);
        }
        return house;
    }

    private void withPoints() {
        for (int many = 1; many <= 3; many++) {
            for (int near = 0; near < 1 << many * (many - 1) / 2; near++) {
                int points = many;
                int pairs = near;
                holds("points " + many + ", near ones " + near, () -> {
                    Sidelessly house = withJoinsCut();
                    house.points('a', points);
                    for (int pair = 0; pair < 3; pair++) {
                        if ((pairs & 1 << pair) != 0) {
                            house.near('a', pair / 2, 1 + (pair + 1) / 2, true);
                        }
                    }
                    return house;
                });
            }
        }
    }

    private void whileReducing() {
        Sidelessly house = withJoinsCut();
        while (house.cuts() > 0) {
            check.same("with " + house.cuts() + " cuts", true, house.isTrue());
            house.step(house.cuts() - 1);
        }
        check.same("in the end", true, house.isTrue());
    }
}
