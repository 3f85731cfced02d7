/**
 * "A method that throws an exception changes nothing. If several exceptions apply, the exception listed first is
 * thrown." For each promise that lists exceptions: all ways in which they can apply together, one by one.
 */
public final class RefusalsTest {
    private static final int NO_NUMBER = 24;

    private final Check check = new Check("RefusalsTest");

    public static void main(String[] args) {
        RefusalsTest test = new RefusalsTest();
        test.check.sentence("If several exceptions apply, the exception listed first is thrown");
        test.atoms();
        test.joinsOfFormulas();
        test.duals();
        test.parts();
        test.axioms();
        test.joinPars();
        test.joinTimes();
        test.joinCuts();
        test.conclusions();
        test.takes();
        test.places();
        test.links();
        test.cuts();
        test.tests();
        test.splitsAndTrees();
        test.steps();
        test.normalForms();
        test.walks();
        test.pointsAndNear();
        test.meanings();
        test.monoidsAndSets();
        test.counters();
        test.searches();
        test.sums();
        test.check.close();
    }

    /** The first one that applies: conditions and exceptions stand in turn, in the order of the promise. */
    private static Class<? extends RuntimeException> first(boolean isFirst, Class<? extends RuntimeException> one,
            boolean isSecond, Class<? extends RuntimeException> two) {
        return isFirst ? one : isSecond ? two : Check.NOTHING;
    }

    private static Class<? extends RuntimeException> first(boolean isFirst, Class<? extends RuntimeException> one,
            boolean isSecond, Class<? extends RuntimeException> two, boolean isThird,
            Class<? extends RuntimeException> three) {
        return isFirst ? one : first(isSecond, two, isThird, three);
    }

    private static boolean isBit(int bits, int bit) {
        return (bits >> bit & 1) == 1;
    }

    /** a and A are the formulas 0 and 1, 13 is a chain of 12 atoms, and perhaps there are 60. */
    private static Sidelessly withChain(boolean isFull) {
        Sidelessly house = Houses.withChain(true, 12);
        house.atom('b', false);
        if (isFull) {
            Houses.fillFormulas(house, 60);
        }
        return house;
    }

    private void atoms() {
        for (int bits = 0; bits < 8; bits++) {
            boolean isBad = isBit(bits, 0);
            boolean isFull = isBit(bits, 1);
            char letter = isBad ? 'f' : 'c';
            boolean isTurned = isBit(bits, 2);
            check.answers("atom, bad letter " + isBad + ", full " + isFull,
                    first(isBad, Check.ARGUMENT, isFull, Check.STATE), 14, () -> withChain(isFull),
                    house -> house.atom(letter, isTurned));
        }
    }

    private void joinsOfFormulas() {
        for (int bits = 0; bits < 32; bits++) {
            boolean isPar = isBit(bits, 0);
            boolean isFirstBad = isBit(bits, 1);
            boolean isSecondBad = isBit(bits, 2);
            boolean isLarge = isBit(bits, 3);
            boolean isFull = isBit(bits, 4);
            int one = isFirstBad ? 60 : isLarge ? 12 : 1;
            int other = isSecondBad ? -1 : isLarge && isFirstBad ? 12 : 1;
            check.answers("join of " + one + " and " + other + ", full " + isFull,
                    first(isFirstBad || isSecondBad, Check.INDEX, isLarge, Check.ARGUMENT, isFull, Check.STATE), 14,
                    () -> withChain(isFull), house -> isPar ? house.par(one, other) : house.times(one, other));
        }
    }

    private void duals() {
        for (int bits = 0; bits < 4; bits++) {
            boolean isBad = isBit(bits, 0);
            boolean isFull = isBit(bits, 1);
            check.answers("dual, no such formula " + isBad + ", full " + isFull,
                    first(isBad, Check.INDEX, isFull, Check.STATE), 14, () -> withChain(isFull),
                    house -> house.dual(isBad ? 60 : 13));
        }
    }

    private void parts() {
        for (int bad : new int[] {-1, 14, 60}) {
            check.refuses("kind", Check.INDEX, () -> withChain(false), house -> house.kind(bad));
            check.refuses("first part", Check.INDEX, () -> withChain(false), house -> house.part(bad, false));
            check.refuses("second part", Check.INDEX, () -> withChain(false), house -> house.part(bad, true));
            check.refuses("value", Check.INDEX, () -> withChain(false), house -> house.value(bad));
        }
        check.refuses("first part of an atom", Check.NO_SUCH, () -> withChain(false), house -> house.part(0, false));
        check.refuses("second part of an atom", Check.NO_SUCH, () -> withChain(false), house -> house.part(1, true));
    }

    /** b is the formula 13, and its dual is not told. */
    private static Sidelessly withAxiomsOfA(boolean areMany, boolean isFull) {
        Sidelessly house = withChain(isFull);
        for (int axiom = 0; areMany && axiom < 24; axiom++) {
            house.axiom(0);
        }
        return house;
    }

    private void axioms() {
        for (int bits = 0; bits < 16; bits++) {
            boolean isBad = isBit(bits, 0);
            boolean isJoin = isBit(bits, 1);
            boolean areMany = isBit(bits, 2);
            boolean isFull = isBit(bits, 3);
            int formula = isBad ? 60 : isJoin ? 12 : 13;
            check.answers("axiom of " + formula + ", 24 derivations " + areMany + ", 60 formulas " + isFull,
                    first(isBad, Check.INDEX, isJoin, Check.UNSUPPORTED, areMany || isFull, Check.STATE), 0,
                    () -> withAxiomsOfA(areMany, isFull), house -> house.axiom(formula));
        }
    }

    /** The house with a large conclusion, of which some derivations are used. */
    private static Sidelessly joinable(int usedOnes, boolean areMany, boolean isFull) {
        Sidelessly house = Houses.withLargeConclusion();
        for (int bit = 0; bit < 3; bit++) {
            if (isBit(usedOnes, bit)) {
                house.joinPar(bit == 2 ? 19 : bit, 0, 1);
            }
        }
        if (isFull) {
            Houses.fillFormulas(house, 60);
        }
        if (areMany) {
            Houses.fillDerivations(house, 0, 24);
        }
        return house;
    }

    private void joinPars() {
        for (int bits = 0; bits < 8; bits++) {
            for (int badOnes = 0; badOnes < 8; badOnes++) {
                for (int sort = 0; sort < 3; sort++) {
                    joinPar(badOnes, sort, isBit(bits, 0), isBit(bits, 1), isBit(bits, 2));
                }
            }
        }
    }

    /** The sort 0 is of a small formula, 1 of twice the same conclusion, 2 of a formula that would be too large. */
    private void joinPar(int badOnes, int sort, boolean isUsed, boolean areMany, boolean isFull) {
        int derivation = isBit(badOnes, 0) ? NO_NUMBER : sort == 2 ? 19 : 0;
        int one = isBit(badOnes, 1) ? -1 : sort == 2 ? 2 : 1;
        int other = isBit(badOnes, 2) ? (sort == 2 ? 3 : 2) : sort == 1 ? 1 : 0;
        int usedOnes = isUsed ? 5 : 0;
        Class<? extends RuntimeException> due = badOnes > 0 ? Check.INDEX
                : first(sort > 0, Check.ARGUMENT, isUsed, Check.NO_SUCH, areMany || isFull, Check.STATE);
        check.answers("joinPar of " + derivation + ", " + one + ", " + other + ", used " + isUsed + ", 24 derivations "
                + areMany + ", 60 formulas " + isFull, due, 20, () -> joinable(usedOnes, areMany, isFull),
                house -> house.joinPar(derivation, one, other));
    }

    private void joinTimes() {
        for (int bits = 0; bits < 16; bits++) {
            for (int badOnes = 0; badOnes < 16; badOnes++) {
                for (int sort = 0; sort < 3; sort++) {
                    joinTimes(badOnes, sort, bits & 3, isBit(bits, 2), isBit(bits, 3));
                }
            }
        }
    }

    /** The sort 0 is of a small formula, 1 of twice the same derivation, 2 of a formula that would be too large. */
    private void joinTimes(int badOnes, int sort, int used, boolean areMany, boolean isFull) {
        int derivation = isBit(badOnes, 0) ? NO_NUMBER : sort == 2 ? 19 : 0;
        int one = isBit(badOnes, 1) ? -1 : sort == 2 ? 2 : 0;
        int second = isBit(badOnes, 2) ? -1 : sort == 1 ? 0 : 1;
        int other = isBit(badOnes, 3) ? 2 : 1;
        int usedOnes = (isBit(used, 0) ? 5 : 0) + (isBit(used, 1) ? 2 : 0);
        Class<? extends RuntimeException> due = badOnes > 0 ? Check.INDEX
                : first(sort > 0, Check.ARGUMENT, used > 0, Check.NO_SUCH, areMany || isFull, Check.STATE);
        check.answers("joinTimes of " + derivation + ", " + one + ", " + second + ", " + other + ", used " + used
                + ", 24 derivations " + areMany + ", 60 formulas " + isFull, due, 20,
                () -> joinable(usedOnes, areMany, isFull), house -> house.joinTimes(derivation, one, second, other));
    }

    private void joinCuts() {
        for (int bits = 0; bits < 32; bits++) {
            for (int badOnes = 0; badOnes < 16; badOnes++) {
                joinCut(badOnes, isBit(bits, 0), bits >> 1 & 3, isBit(bits, 3), isBit(bits, 4));
            }
        }
    }

    private void joinCut(int badOnes, boolean areSame, int used, boolean areDual, boolean areMany) {
        int derivation = isBit(badOnes, 0) ? NO_NUMBER : 0;
        int one = isBit(badOnes, 1) ? 2 : 0;
        int second = isBit(badOnes, 2) ? NO_NUMBER : areSame ? 0 : 1;
        int other = isBit(badOnes, 3) ? -1 : areDual ? 1 : 0;
        Class<? extends RuntimeException> due = badOnes > 0 ? Check.INDEX
                : areSame ? Check.ARGUMENT
                : first(used > 0, Check.NO_SUCH, !areDual, Check.UNSUPPORTED, areMany, Check.STATE);
        check.answers("joinCut of " + derivation + ", " + one + ", " + second + ", " + other + ", used " + used
                + ", 24 derivations " + areMany, due, 20, () -> joinable(used, areMany, false),
                house -> house.joinCut(derivation, one, second, other));
    }

    private void conclusions() {
        Check.Recipe recipe = () -> Houses.withAxioms(2);
        for (int bad : new int[] {-1, 2, 24}) {
            check.refuses("conclusions", Check.INDEX, recipe, house -> house.conclusions(bad));
            check.refuses("conclusion", Check.INDEX, recipe, house -> house.conclusion(bad, 0));
            check.refuses("no derivation and no conclusion", Check.INDEX, recipe, house -> house.conclusion(bad, 2));
        }
        check.refuses("no conclusion", Check.NO_SUCH, recipe, house -> house.conclusion(1, 2));
        check.refuses("no conclusion", Check.NO_SUCH, recipe, house -> house.conclusion(1, -1));
    }

    /** That a derivation has more than 24 leaves cannot come about: 24 derivations hold 12 axioms in one at most. */
    private void takes() {
        for (int bad : new int[] {-1, 24}) {
            check.refuses("take leaves the bench", Check.INDEX, Houses::full, house -> house.take(bad));
        }
        check.refuses("take of none", Check.INDEX, () -> Houses.withRoots("a", "A"), house -> house.take(0));
    }

    private void places() {
        for (int bits = 0; bits < 4; bits++) {
            boolean isBad = isBit(bits, 0);
            boolean isFull = isBit(bits, 1);
            check.answers("place, no such formula " + isBad + ", no room " + isFull,
                    first(isBad, Check.INDEX, isFull, Check.STATE), 2, () -> {
                        Sidelessly house = withChain(false);
                        house.place(12);
                        house.place(isFull ? 12 : 11);
                        return house;
                    }, house -> house.place(isBad ? 14 : 0));
        }
    }

    /** Root 0 is a, 1 is A, 2 is a, 3 is A, 4 is b; the leaves 0 and 1 are linked, the roots 0 and 1 are cut. */
    private static Sidelessly withFive() {
        Sidelessly house = Houses.linking(Houses.withRoots("a", "A", "a", "A", "b"), 0, 1);
        house.cut(0, 1);
        return house;
    }

    private void links() {
        int[] numbers = {0, 1, 2, 3, 4, 5, -1};
        for (int one : numbers) {
            for (int other : numbers) {
                boolean isBad = one < 0 || one == 5 || other < 0 || other == 5;
                boolean areDual = one < 4 && other < 4 && (one + other) % 2 == 1;
                boolean isTaken = one < 2 || other < 2;
                Class<? extends RuntimeException> due = first(isBad, Check.INDEX, !areDual || isTaken,
                        Check.UNSUPPORTED);
                check.answers("link of " + one + " and " + other, due, 2, RefusalsTest::withFive,
                        house -> house.link(one, other));
                check.answers("cut of " + one + " and " + other, due, 2, RefusalsTest::withFive,
                        house -> house.cut(one, other));
            }
        }
        for (int bad : new int[] {-1, 5, 24}) {
            check.refuses("unlink", Check.INDEX, RefusalsTest::withFive, house -> house.unlink(bad));
            check.refuses("linked", Check.INDEX, RefusalsTest::withFive, house -> house.linked(bad));
        }
        check.refuses("unlink of an open leaf", Check.NO_SUCH, RefusalsTest::withFive, house -> house.unlink(2));
        check.refuses("linked of an open leaf", Check.NO_SUCH, RefusalsTest::withFive, house -> house.linked(2));
    }

    private void cuts() {
        for (int bad : new int[] {-1, 5, 24, 48}) {
            check.refuses("rootAt", Check.INDEX, RefusalsTest::withFive, house -> house.rootAt(bad));
        }
    }

    /** A chain of so many pars or times, and its dual, linked or not. */
    private static Check.Recipe chain(boolean isPar, int joins, boolean hasDual, boolean isLinked) {
        return () -> {
            Sidelessly house = Houses.withChain(isPar, joins + 1);
            house.place(joins + 1);
            if (hasDual) {
                house.place(house.dual(joins + 1));
            }
            for (int leaf = 0; isLinked && leaf <= joins; leaf++) {
                house.link(leaf, joins + 1 + leaf);
            }
            return house;
        };
    }

    private void tests() {
        for (int bits = 0; bits < 4; bits++) {
            boolean isLinked = isBit(bits, 0);
            boolean hasDual = isLinked || isBit(bits, 1);
            check.refuses("byChoices of 11 pars", Check.UNSUPPORTED, chain(true, 11, hasDual, isLinked),
                    house -> house.byChoices());
            check.refuses("badChoice of 11 pars comes ahead of there being none", Check.UNSUPPORTED,
                    chain(true, 11, hasDual, isLinked), house -> house.badChoice());
            check.refuses("badChoice of 10 pars", Check.NO_SUCH, chain(true, 10, hasDual, isLinked),
                    house -> house.badChoice());
            check.refuses("byTrips of 11 times", Check.UNSUPPORTED, chain(false, 11, hasDual, isLinked),
                    house -> house.byTrips());
        }
        check.refuses("badChoice of nothing", Check.NO_SUCH, Sidelessly::new, house -> house.badChoice());
    }

    private void splitsAndTrees() {
        check.refuses("splits of nothing", Check.UNSUPPORTED, Sidelessly::new, house -> house.splits());
        check.refuses("trees of nothing", Check.UNSUPPORTED, Sidelessly::new, house -> house.trees());
        check.refuses("splits of open leaves", Check.UNSUPPORTED, RefusalsTest::withFive, house -> house.splits());
        check.refuses("trees of open leaves", Check.UNSUPPORTED, RefusalsTest::withFive, house -> house.trees());
        check.refuses("trees of 11 cuts", Check.UNSUPPORTED, Houses::full, house -> house.trees());
        check.tells("splits of 11 cuts", 11, Houses::full, house -> house.splits());
    }

    private void steps() {
        for (int cut : new int[] {-1, 0, 1, 24}) {
            check.refuses("step of " + cut, cut == 0 ? Check.UNSUPPORTED : Check.INDEX, RefusalsTest::withFive,
                    house -> house.step(cut));
        }
        check.refuses("no cut", Check.INDEX, Sidelessly::new, house -> house.step(0));
    }

    /** The first cut can be made a step of, and so can parts of it; the last one can't. */
    private static Sidelessly withLateRefusal() {
        Sidelessly house = Houses.withRoots("(A|B)", "(a*b)", "(A|B)", "(a*b)", "a", "A");
        Houses.linking(house, 0, 2, 1, 3, 4, 6, 5, 7, 8, 9);
        house.cut(1, 2);
        house.cut(4, 5);
        return house;
    }

    private void normalForms() {
        check.sentence("A method that throws an exception changes nothing");
        check.refuses("normal, refused at once", Check.UNSUPPORTED, RefusalsTest::withFive, house -> house.normal());
        check.refuses("normal, refused behind a step", Check.UNSUPPORTED, RefusalsTest::withLateRefusal,
                house -> house.normal());
        Sidelessly house = withLateRefusal();
        check.same("refused", "throws UnsupportedOperationException", Check.answerOf(() -> house.normal()));
        check.same("the first cut is whole still", 'b', house.step(0));
        check.same("the next root behind its parts", 10, house.place(0));
        check.sentence("If several exceptions apply, the exception listed first is thrown");
    }

    /** The roots 1 and 2 are cut; the leaves 2 and 4 are open. */
    private void walks() {
        Check.Recipe recipe = () -> {
            Sidelessly house = Houses.linking(Houses.withRoots("a", "A", "a", "A", "b"), 0, 1);
            house.cut(1, 2);
            return house;
        };
        for (int leaf : new int[] {-1, 0, 1, 2, 3, 4, 5, 24}) {
            Class<? extends RuntimeException> due = leaf < 0 || leaf > 4 ? Check.INDEX : Check.UNSUPPORTED;
            check.refuses("walk from " + leaf, due, recipe, house -> house.walk(leaf));
            check.refuses("passes from " + leaf, due, recipe, house -> house.passes(leaf));
        }
    }

    /** a has three points, 1 and 2 being near; b has one point. */
    private static Sidelessly withPoints() {
        Sidelessly house = new Sidelessly();
        house.points('a', 3);
        house.near('a', 1, 2, true);
        house.points('b', 1);
        return house;
    }

    private void pointsAndNear() {
        for (char letter : new char[] {'a', 'b', 'f'}) {
            for (int many : new int[] {0, 1, 3, 4}) {
                boolean isBad = letter == 'f' || many < 1 || many > 3;
                check.answers("points of " + letter + ", " + many, isBad ? Check.ARGUMENT : Check.NOTHING,
                        letter == 'a' ? 3 : 1, RefusalsTest::withPoints, house -> house.points(letter, many));
            }
            for (int pair = 0; pair < 25; pair++) {
                int one = pair / 5 - 1;
                int other = pair % 5 - 1;
                int most = letter == 'a' ? 3 : 1;
                boolean isBad = letter == 'f' || one < 0 || other < 0 || one >= most || other >= most || one == other;
                check.answers("near of " + letter + ", " + one + ", " + other, isBad ? Check.ARGUMENT : Check.NOTHING,
                        one + other == 3, RefusalsTest::withPoints,
                                house -> house.near(letter, one, other, one > other));
            }
        }
    }

    private void meanings() {
        for (int bits = 0; bits < 4; bits++) {
            boolean isOpen = isBit(bits, 0);
            boolean hasMany = isBit(bits, 1);
            Check.Recipe recipe = () -> {
                Sidelessly house = chain(true, hasMany ? 11 : 1, true, true).make();
                if (isOpen) {
                    house.unlink(0);
                }
                return house;
            };
            check.answers("meaning, open " + isOpen, isOpen ? Check.UNSUPPORTED : Check.NOTHING,
                    hasMany ? 4096 : 4, recipe, house -> house.meaning());
            check.answers("isClique, open " + isOpen + ", many rows " + hasMany,
                    isOpen || hasMany ? Check.UNSUPPORTED : Check.NOTHING, true, recipe, house -> house.isClique());
        }
    }

    /** Size 2, the pole being 1, and a set for a. */
    private static Sidelessly withMonoid() {
        Sidelessly house = Houses.withAtoms();
        house.monoid(2, 2);
        house.set('a', 2);
        return house;
    }

    private void monoidsAndSets() {
        for (int size = -1; size <= 5; size++) {
            for (int pole : new int[] {-1, 0, 1, 2, 3, 4, 7, 8}) {
                boolean isBad = size < 1 || size > 3 || pole < 0 || pole >= 1 << size;
                int newSize = size;
                check.answers("monoid of " + size + ", " + pole, isBad ? Check.ARGUMENT : Check.NOTHING, 2,
                        RefusalsTest::withMonoid, house -> house.monoid(newSize, pole));
            }
        }
        for (char letter : new char[] {'a', 'f'}) {
            for (int numbers = -1; numbers <= 5; numbers++) {
                int told = numbers;
                boolean isBad = letter == 'f' || numbers < 0 || numbers > 3;
                check.answers("set of " + letter + ", " + numbers, isBad ? Check.ARGUMENT : Check.NOTHING, 2,
                        RefusalsTest::withMonoid, house -> house.set(letter, told));
            }
        }
    }

    /** Formulas of three or four letters that hold in all monoids, or not in all. */
    private void counters() {
        String[] texts = {"((a|A)*((b|B)*(c|C)))", "(a*(b*c))", "((a|A)*((b|B)*((c|C)*(d|D))))", "((a*b)*(c*d))"};
        for (int index = 0; index < texts.length; index++) {
            String text = texts[index];
            check.answers("counter of " + text, first(index > 1, Check.UNSUPPORTED, index == 0, Check.NO_SUCH), 1,
                    () -> withFormula(text), house -> house.counter(Houses.told(house, text)));
        }
        check.refuses("counter of none", Check.INDEX, RefusalsTest::withMonoid, house -> house.counter(10));
    }

    private static Sidelessly withFormula(String text) {
        Sidelessly house = withMonoid();
        Houses.told(house, text);
        return house;
    }

    /** The bench has a cut or not, some leaves or too many, and a proof or not. */
    private void searches() {
        for (int bits = 0; bits < 8; bits++) {
            boolean isCut = isBit(bits, 0);
            boolean isLarge = isBit(bits, 1);
            boolean isNone = isBit(bits, 2);
            Check.Recipe recipe = () -> {
                Sidelessly house = Houses.withRoots("((a|A)*(b|B))", "a", "A");
                Houses.placeAll(house, isLarge ? new String[] {"((c|C)*(c|C))", "c"} : new String[] {"(c|c)"});
                Houses.linking(house, 0, 1, 4, 5);
                if (isCut) {
                    house.cut(1, 2);
                }
                return house;
            };
            boolean isRefused = isCut || isLarge;
            check.answers("proofs, a cut " + isCut + ", many leaves " + isLarge,
                    isRefused ? Check.UNSUPPORTED : Check.NOTHING, 0, recipe, house -> house.proofs());
            check.refuses("proof, a cut " + isCut + ", many leaves " + isLarge,
                    isRefused ? Check.UNSUPPORTED : Check.NO_SUCH, recipe, house -> house.proof(isNone ? -1 : 0));
        }
    }

    private void sums() {
        check.refuses("linkShare of none", Check.ARITHMETIC, () -> withChain(true), house -> house.linkShare());
        check.refuses("meanAtoms of none", Check.ARITHMETIC, RefusalsTest::withPoints, house -> house.meanAtoms());
    }
}
