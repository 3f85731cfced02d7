/** Promises 8 to 14, and the terms of derivations: each sentence that names a boundary, inside it and outside. */
public final class EdgesOfDerivationsTest {
    private static final int[] NO_NUMBERS = {Integer.MIN_VALUE, -2, -1, 24, 25, Integer.MAX_VALUE};

    private final Check check = new Check("EdgesOfDerivationsTest");

    public static void main(String[] args) {
        EdgesOfDerivationsTest test = new EdgesOfDerivationsTest();
        test.axioms();
        test.noAxioms();
        test.twentyFour();
        test.twentyFourOfEach();
        test.pars();
        test.times();
        test.cuts();
        test.noSuchDerivation();
        test.noSuchConclusion();
        test.theSame();
        test.twelveAtomsByPar();
        test.twelveAtomsByTimes();
        test.usedOnceForAll();
        test.usedByAll();
        test.notUsed();
        test.notDual();
        test.largeCuts();
        test.howMany();
        test.takesInFull();
        test.takesClear();
        test.takesCuts();
        test.check.close();
    }

    /** The conclusions, told by the numbers of their formulas. */
    private static String shown(Sidelessly house, int derivation) {
        StringBuilder text = new StringBuilder();
        for (int index = 0; index < house.conclusions(derivation); index++) {
            text.append(index == 0 ? "" : " ").append(house.conclusion(derivation, index));
        }
        return text.toString();
    }

    /** The axioms of a, b, c and d are the derivations 0 to 3; a is the formula 0, A is 1, b is 2 and so on. */
    private static Sidelessly withFour() {
        Sidelessly house = Houses.withAtoms();
        for (int atom = 0; atom < 8; atom += 2) {
            house.axiom(atom);
        }
        return house;
    }

    private void axioms() {
        check.sentence("One by an axiom has two conclusions, an atom and its dual.");
        for (int atom = 0; atom < 10; atom++) {
            Sidelessly house = Houses.withAtoms();
            check.same("axiom of " + atom, 0, house.axiom(atom));
            check.same("it has two", 2, house.conclusions(0));
            check.same("the atom is the first one", atom, house.conclusion(0, 0));
            check.same("its dual is the second one", atom ^ 1, house.conclusion(0, 1));
            int one = atom;
            check.same("there is no third one", "throws NoSuchElementException",
                    Check.answerOf(() -> house.conclusion(0, 2)));
            check.same("the same atom again", 1, house.axiom(one));
        }
    }

    private void noAxioms() {
        check.sentence("Throws UnsupportedOperationException if it is no atom");
        for (boolean isPar : new boolean[] {false, true}) {
            check.same("the last atom", 0, Houses.withChain(isPar, 2).axiom(1));
            check.refuses("a join", Check.UNSUPPORTED, () -> Houses.withChain(isPar, 2), house -> house.axiom(2));
            check.refuses("the largest one", Check.UNSUPPORTED, () -> Houses.withChain(isPar, 12),
                    house -> house.axiom(12));
        }
    }

    private void twentyFour() {
        check.sentence("At most 24 are numbered from 0.");
        Sidelessly house = Houses.withAxioms(0);
        for (int due = 0; due < 24; due++) {
            check.same("axiom", due, house.axiom(due % 2));
        }
        check.same("a 25th one", "throws IllegalStateException", Check.answerOf(() -> house.axiom(0)));
        check.same("the last one is there", 2, house.conclusions(23));
        check.same("the 25th one is not", "throws IndexOutOfBoundsException",
                Check.answerOf(() -> house.conclusions(24)));
    }

    private void twentyFourOfEach() {
        check.sentence("Throws IllegalStateException if there are 24 derivations");
        check.same("the 24th by axiom", 23, Houses.withAxioms(23).axiom(0));
        check.same("the 24th by joinPar", 23, Houses.withAxioms(23).joinPar(22, 0, 1));
        check.same("the 24th by joinTimes", 23, Houses.withAxioms(23).joinTimes(0, 0, 22, 0));
        check.same("the 24th by joinCut", 23, Houses.withAxioms(23).joinCut(22, 1, 0, 0));
        Check.Recipe full = () -> Houses.withAxioms(24);
        check.refuses("the 25th by axiom", Check.STATE, full, house -> house.axiom(0));
        check.refuses("the 25th by joinPar", Check.STATE, full, house -> house.joinPar(23, 0, 1));
        check.refuses("the 25th by joinTimes", Check.STATE, full, house -> house.joinTimes(0, 0, 23, 0));
        check.refuses("the 25th by joinCut", Check.STATE, full, house -> house.joinCut(23, 1, 0, 0));
        check.tells("a full house can be taken", 1, () -> {
            Sidelessly house = Houses.withAxioms(24);
            house.take(23);
            return house;
        }, house -> house.take(23));
    }

    /** Derivation 4 has the conclusions b (2), A (1), and the times of a and B (10). */
    private static Sidelessly withThree() {
        Sidelessly house = withFour();
        house.joinTimes(1, 1, 0, 0);
        return house;
    }

    private void pars() {
        check.sentence("Joining two conclusions of one by par takes both away and adds their par at the end.");
        check.same("three conclusions", "2 1 10", shown(withThree(), 4));
        String[] due = {"10 2 1", "1 2 10", "2 1 10"};
        for (int pair = 0; pair < 6; pair++) {
            int one = pair < 4 ? 0 : 1;
            int other = pair < 2 ? 1 : 2;
            Sidelessly house = withThree();
            boolean isTurned = pair % 2 == 1;
            int made = house.joinPar(4, isTurned ? other : one, isTurned ? one : other);
            check.same("a new derivation", 5, made);
            check.same("two conclusions are left", 2, house.conclusions(5));
            String[] numbers = due[pair / 2].split(" ");
            check.same("the third one is ahead", numbers[0], "" + house.conclusion(5, 0));
            int par = house.conclusion(5, 1);
            check.same("the first part", numbers[isTurned ? 2 : 1], "" + house.part(par, false));
            check.same("the second part", numbers[isTurned ? 1 : 2], "" + house.part(par, true));
            check.same("the par", '|', house.kind(par));
            check.same("what was joined has all still", "2 1 10", shown(house, 4));
        }
        Sidelessly last = Houses.withAxioms(1);
        last.joinPar(0, 1, 0);
        check.same("of the last two one is left", "2", shown(last, 1));
    }

    private void times() {
        check.sentence("Joining one of a derivation and one of another one by times leaves the others of the first "
                + "one, "
                + "then those of the second one, and adds the times at the end");
        for (int one = 0; one < 3; one++) {
            for (int other = 0; other < 2; other++) {
                Sidelessly house = withThree();
                house.joinTimes(4, one, 2, other);
                String first = new String[] {"1 10 ", "2 10 ", "2 1 "}[one];
                check.same("the first one has three", first + new String[] {"5 ", "4 "}[other] + "11", shown(house, 5));
                check.same("first part", new int[] {2, 1, 10}[one], house.part(11, false));
                check.same("second part", 4 + other, house.part(11, true));
                Sidelessly turned = withThree();
                turned.joinTimes(2, other, 4, one);
                check.same("the second one has three", new String[] {"5 ", "4 "}[other] + first + "11",
                        shown(turned, 5));
                check.same("first part", 4 + other, turned.part(11, false));
            }
        }
        Sidelessly alone = Houses.withAxioms(2);
        alone.joinPar(0, 0, 1);
        alone.joinPar(1, 0, 1);
        alone.joinTimes(2, 0, 3, 0);
        check.same("of single ones the times alone is left", "3", shown(alone, 4));
    }

    private void cuts() {
        check.sentence("by a cut it leaves the others alone, if both are dual");
        Sidelessly house = withThree();
        house.axiom(3);
        check.same("the first one has three", 6, house.joinCut(4, 0, 5, 0));
        check.same("others of both", "1 10 2", shown(house, 6));
        Sidelessly turned = withThree();
        turned.axiom(3);
        check.same("the second one has three", 6, turned.joinCut(5, 0, 4, 0));
        check.same("others of both", "2 1 10", shown(turned, 6));
        Sidelessly alone = Houses.withAxioms(2);
        alone.joinCut(0, 0, 1, 1);
        check.same("two are left", "1 0", shown(alone, 2));
        Sidelessly single = withCutOfSingle();
        check.same("a par that stands alone is cut with a times", 5, single.joinCut(2, 0, 4, 2));
        check.same("the others of the times", "0 1", shown(single, 5));
        check.same("no formula came", 4, Houses.formulas(single));
    }

    /** Derivation 2 is (a|A) alone, derivation 4 has a, A and (A*a). */
    private static Sidelessly withCutOfSingle() {
        Sidelessly house = Houses.withAxioms(2);
        house.joinPar(0, 0, 1);
        house.axiom(0);
        house.joinTimes(1, 1, 3, 0);
        return house;
    }

    private void noSuchDerivation() {
        check.sentence("Throws IndexOutOfBoundsException if there is no such derivation");
        for (int bad : NO_NUMBERS) {
            noSuchDerivation(bad, Sidelessly::new);
            noSuchDerivation(bad, EdgesOfDerivationsTest::withFour);
            noSuchDerivation(bad, () -> Houses.withAxioms(24));
        }
        noSuchDerivation(0, Sidelessly::new);
        noSuchDerivation(4, EdgesOfDerivationsTest::withFour);
        noSuchDerivation(23, () -> Houses.withAxioms(23));
        check.tells("the last one", 2, EdgesOfDerivationsTest::withFour, house -> house.conclusions(3));
    }

    private void noSuchDerivation(int bad, Check.Recipe recipe) {
        check.refuses("joinPar of " + bad, Check.INDEX, recipe, house -> house.joinPar(bad, 0, 1));
        check.refuses("joinTimes of " + bad, Check.INDEX, recipe, house -> house.joinTimes(bad, 0, 0, 0));
        check.refuses("joinTimes with " + bad, Check.INDEX, recipe, house -> house.joinTimes(0, 0, bad, 0));
        check.refuses("joinTimes of twice " + bad, Check.INDEX, recipe, house -> house.joinTimes(bad, 0, bad, 0));
        check.refuses("joinCut of " + bad, Check.INDEX, recipe, house -> house.joinCut(bad, 0, 0, 1));
        check.refuses("joinCut with " + bad, Check.INDEX, recipe, house -> house.joinCut(0, 0, bad, 1));
        check.refuses("joinCut of twice " + bad, Check.INDEX, recipe, house -> house.joinCut(bad, 0, bad, 1));
        check.refuses("conclusions of " + bad, Check.INDEX, recipe, house -> house.conclusions(bad));
        check.refuses("conclusion of " + bad, Check.INDEX, recipe, house -> house.conclusion(bad, 0));
        check.refuses("take of " + bad, Check.INDEX, recipe, house -> house.take(bad));
    }

    private void noSuchConclusion() {
        check.sentence("Throws IndexOutOfBoundsException if there is no such derivation, or conclusion, for either");
        for (int bad : new int[] {Integer.MIN_VALUE, -1, 3, 24, Integer.MAX_VALUE}) {
            Check.Recipe recipe = EdgesOfDerivationsTest::withThree;
            check.refuses("joinPar of " + bad, Check.INDEX, recipe, house -> house.joinPar(4, bad, 0));
            check.refuses("joinPar with " + bad, Check.INDEX, recipe, house -> house.joinPar(4, 0, bad));
            check.refuses("joinPar of twice " + bad, Check.INDEX, recipe, house -> house.joinPar(4, bad, bad));
            check.refuses("joinTimes of " + bad, Check.INDEX, recipe, house -> house.joinTimes(4, bad, 2, 0));
            check.refuses("joinTimes with " + bad, Check.INDEX, recipe, house -> house.joinTimes(2, 0, 4, bad));
            check.refuses("joinTimes of twice " + bad, Check.INDEX, recipe, house -> house.joinTimes(4, bad, 4, bad));
            check.refuses("joinCut of " + bad, Check.INDEX, recipe, house -> house.joinCut(4, bad, 2, 0));
            check.refuses("joinCut with " + bad, Check.INDEX, recipe, house -> house.joinCut(2, 0, 4, bad));
            check.refuses("joinCut of twice " + bad, Check.INDEX, recipe, house -> house.joinCut(4, bad, 4, bad));
        }
        check.same("the last one by par", 5, withThree().joinPar(4, 2, 0));
        check.same("the last one by par, told second", 5, withThree().joinPar(4, 0, 2));
        check.same("the last one by times", 5, withThree().joinTimes(4, 2, 2, 1));
        check.same("the last one by times, told second", 5, withThree().joinTimes(2, 1, 4, 2));
        check.sentence("Throws NoSuchElementException if there is none");
        for (int bad : new int[] {Integer.MIN_VALUE, -1, 3, 24, Integer.MAX_VALUE}) {
            check.refuses("conclusion " + bad, Check.NO_SUCH, EdgesOfDerivationsTest::withThree,
                    house -> house.conclusion(4, bad));
        }
        check.refuses("a cut formula is none", Check.NO_SUCH, () -> withCut(2), house -> house.conclusion(2, 2));
        check.tells("the last one", 10, EdgesOfDerivationsTest::withThree, house -> house.conclusion(4, 2));
    }

    private void theSame() {
        check.sentence("Throws IllegalArgumentException if both are the same");
        for (int index = 0; index < 3; index++) {
            int one = index;
            check.refuses("joinPar of twice " + index, Check.ARGUMENT, EdgesOfDerivationsTest::withThree,
                    house -> house.joinPar(4, one, one));
            for (int second = 0; second < 3; second++) {
                int other = second;
                check.refuses("joinTimes of the same derivation", Check.ARGUMENT, EdgesOfDerivationsTest::withThree,
                        house -> house.joinTimes(4, one, 4, other));
                check.refuses("joinCut of the same derivation", Check.ARGUMENT, EdgesOfDerivationsTest::withThree,
                        house -> house.joinCut(4, one, 4, other));
            }
        }
        check.refuses("joinCut of both ends of one axiom", Check.ARGUMENT, () -> Houses.withAxioms(1),
                house -> house.joinCut(0, 0, 0, 1));
        check.same("joinTimes with equal indices of two", 2, Houses.withAxioms(2).joinTimes(0, 1, 1, 1));
        check.same("joinPar of alike formulas at two indices", 3, withTwoAlike().joinPar(2, 0, 1));
    }

    /** Derivation 2 has the conclusions A, A and (a*a). */
    private static Sidelessly withTwoAlike() {
        Sidelessly house = Houses.withAxioms(2);
        house.joinTimes(0, 0, 1, 0);
        return house;
    }

    /** So many axioms of a, joined by times of a: the last derivation has so many A, and the times behind them. */
    private static Sidelessly star(int axioms) {
        Sidelessly house = Houses.withAxioms(axioms);
        joinStar(house, 0, axioms);
        return house;
    }

    private static int joinStar(Sidelessly house, int start, int axioms) {
        int joined = start;
        for (int next = 1; next < axioms; next++) {
            joined = house.joinTimes(joined, next == 1 ? 0 : next, start + next, 0);
        }
        return joined;
    }

    private void twelveAtomsByPar() {
        check.sentence("Throws IllegalArgumentException if the formula would have more than 12 atoms; joinPar");
        Sidelessly inside = star(11);
        check.same("11 and 1", 21, inside.joinPar(20, 11, 0));
        check.same("all others are left", 11, inside.conclusions(21));
        check.same("1 and 11", 21, star(11).joinPar(20, 0, 11));
        check.refuses("12 and 1", Check.ARGUMENT, () -> star(12), house -> house.joinPar(22, 12, 0));
        check.refuses("1 and 12", Check.ARGUMENT, () -> star(12), house -> house.joinPar(22, 11, 12));
        check.same("1 and 1 beside 12", 23, star(12).joinPar(22, 0, 11));
        check.refuses("12 and 1 of a large one, with room", Check.ARGUMENT, Houses::withLargeConclusion,
                house -> house.joinPar(19, 2, 0));
        check.refuses("1 and 12 of a large one, with room", Check.ARGUMENT, Houses::withLargeConclusion,
                house -> house.joinPar(19, 1, 2));
        Sidelessly halves = withPars(6);
        check.same("6 and 6", 16, halves.joinPar(15, 0, 1));
        check.refuses("7 and 6", Check.ARGUMENT, () -> withPars(7), house -> house.joinPar(17, 1, 2));
        check.refuses("6 and 7", Check.ARGUMENT, () -> withPars(7), house -> house.joinPar(17, 2, 1));
    }

    /** A star, of which 6 conclusions A are joined by par: the last derivation has its times and then the par. */
    private static Sidelessly withPars(int axioms) {
        Sidelessly house = Houses.withAxioms(axioms);
        int joined = joinStar(house, 0, axioms);
        joined = house.joinPar(joined, 0, 1);
        for (int next = 2; next < 6; next++) {
            joined = house.joinPar(joined, house.conclusions(joined) - 1, 0);
        }
        return house;
    }

    private void twelveAtomsByTimes() {
        check.sentence("Throws IllegalArgumentException if the formula would have more than 12 atoms; joinTimes");
        for (int first = 1; first <= 11; first++) {
            int stars = first;
            Sidelessly house = withTwoStars(stars, 12 - stars);
            int joined = house.joinTimes(lastOf(stars), stars == 1 ? 0 : stars, lastOf(stars) + lengthOf(12 - stars),
                    stars == 11 ? 0 : 12 - stars);
            check.same(first + " and " + (12 - first), 22, joined);
            check.same("12 conclusions and the times", 13, house.conclusions(22));
        }
        Check.Recipe large = Houses::withLargeConclusion;
        check.refuses("12 and 1", Check.ARGUMENT, large, house -> house.joinTimes(19, 2, 0, 0));
        check.refuses("1 and 12", Check.ARGUMENT, large, house -> house.joinTimes(0, 0, 19, 2));
        check.same("1 of the large one and 1", 20, large.make().joinTimes(19, 1, 0, 0));
        check.same("1 and 1 of the large one", 20, large.make().joinTimes(0, 0, 19, 0));
        check.refuses("12 and 2", Check.ARGUMENT, () -> {
            Sidelessly house = Houses.withLargeConclusion();
            house.joinPar(0, 0, 1);
            return house;
        }, house -> house.joinTimes(19, 2, 20, 0));
    }

    /** A star takes twice as many derivations as it has axioms, less one. */
    private static int lengthOf(int star) {
        return 2 * star - 1;
    }

    private static int lastOf(int star) {
        return lengthOf(star) - 1;
    }

    private static Sidelessly withTwoStars(int first, int second) {
        Sidelessly house = Houses.withAxioms(first);
        joinStar(house, 0, first);
        int start = lengthOf(first);
        for (int axiom = 0; axiom < second; axiom++) {
            house.axiom(0);
        }
        joinStar(house, start, second);
        return house;
    }

    /** The derivations 0 and 1 are cut, and more axioms follow. */
    private static Sidelessly withCut(int axioms) {
        Sidelessly house = Houses.withAxioms(axioms);
        house.joinCut(0, 0, 1, 1);
        return house;
    }

    private void usedOnceForAll() {
        check.sentence("What is joined is used, once for all, and a new derivation comes.");
        Check.Recipe byPar = () -> {
            Sidelessly house = Houses.withAxioms(3);
            house.joinPar(0, 0, 1);
            return house;
        };
        isUsed(byPar, 0, 2);
        Check.Recipe byTimes = () -> {
            Sidelessly house = Houses.withAxioms(3);
            house.joinTimes(0, 0, 1, 0);
            return house;
        };
        isUsed(byTimes, 0, 2);
        isUsed(byTimes, 1, 2);
        Check.Recipe byCut = () -> withCut(3);
        isUsed(byCut, 0, 2);
        isUsed(byCut, 1, 2);
        isUsed(() -> {
            Sidelessly house = byCut.make();
            house.take(0);
            house.clear();
            house.take(3);
            house.normal();
            return house;
        }, 0, 2);
        isUsed(() -> {
            Sidelessly house = byPar.make();
            house.joinPar(1, 0, 1);
            house.joinTimes(3, 0, 4, 0);
            return house;
        }, 3, 2);
        check.same("what came by it is not used", 4, byTimes.make().joinPar(3, 0, 1));
        check.same("nor what came by a cut", 4, byCut.make().joinPar(3, 0, 1));
        check.same("nor what came by a par", 4, byPar.make().joinTimes(3, 0, 1, 0));
        check.tells("conclusions of a used one", 2, byTimes, house -> house.conclusions(0));
        check.tells("conclusion of a used one", 1, byTimes, house -> house.conclusion(1, 1));
    }

    /** The one is used, the other one is not, and no join takes the first one. */
    private void isUsed(Check.Recipe recipe, int used, int free) {
        check.refuses("joinTimes of it", Check.NO_SUCH, recipe, house -> house.joinTimes(used, 0, free, 0));
        check.refuses("joinTimes with it", Check.NO_SUCH, recipe, house -> house.joinTimes(free, 0, used, 0));
        check.refuses("joinCut of it", Check.NO_SUCH, recipe, house -> house.joinCut(used, 0, free, 1));
        check.refuses("joinCut with it", Check.NO_SUCH, recipe, house -> house.joinCut(free, 1, used, 0));
        if (recipe.make().conclusions(used) > 1) {
            check.refuses("joinPar of it", Check.NO_SUCH, recipe, house -> house.joinPar(used, 0, 1));
        }
        Sidelessly house = recipe.make();
        check.same("it can be joined", true, Check.answerOf(() -> house.joinPar(free, 0, 1)) instanceof Integer);
    }

    private void usedByAll() {
        check.sentence("Throws NoSuchElementException if one was used");
        Check.Recipe both = () -> {
            Sidelessly house = Houses.withAxioms(2);
            house.joinPar(0, 0, 1);
            house.joinPar(1, 0, 1);
            return house;
        };
        check.refuses("joinTimes of two used ones", Check.NO_SUCH, both, house -> house.joinTimes(0, 0, 1, 0));
        check.refuses("joinCut of two used ones", Check.NO_SUCH, both, house -> house.joinCut(0, 0, 1, 1));
        check.refuses("joinCut of two used ones, not dual", Check.NO_SUCH, both, house -> house.joinCut(0, 0, 1, 0));
    }

    private void notUsed() {
        check.sentence("A method that throws an exception changes nothing: what is refused uses nothing");
        Sidelessly house = Houses.withFormulas(60);
        house.axiom(0);
        house.axiom(0);
        for (Check.Call call : new Check.Call[] {() -> house.joinPar(0, 0, 1), () -> house.joinPar(0, 0, 0),
            () -> house.joinPar(0, 0, 2), () -> house.joinTimes(0, 0, 0, 1), () -> house.joinTimes(0, 0, 1, 2),
            () -> house.joinTimes(0, 0, 2, 0), () -> house.joinCut(0, 0, 1, 0), () -> house.joinCut(0, 0, 0, 1)}) {
            check.same("refused", true, Check.answerOf(call).toString().startsWith("throws"));
        }
        check.same("neither is used", 2, house.joinCut(0, 0, 1, 1));
        check.sentence("Takes a derivation to the bench, used or not, which uses it not.");
        Sidelessly taken = Houses.withAxioms(1);
        check.same("take", 1, taken.take(0));
        check.same("take again", 1, taken.take(0));
        check.same("it is not used", 1, taken.joinPar(0, 0, 1));
        check.same("take the used one", 1, taken.take(0));
        check.same("its roots", 2, taken.roots());
    }

    private void notDual() {
        check.sentence("Throws UnsupportedOperationException if both conclusions are not dual");
        for (int one = 0; one < 2; one++) {
            for (int other = 0; other < 2; other++) {
                int index = one;
                int otherIndex = other;
                check.answers("atoms of one letter", one == other ? Check.UNSUPPORTED : Check.NOTHING, 2,
                        () -> Houses.withAxioms(2), house -> house.joinCut(0, index, 1, otherIndex));
                check.refuses("atoms of two letters", Check.UNSUPPORTED, EdgesOfDerivationsTest::withFour,
                        house -> house.joinCut(0, index, 1, otherIndex));
            }
        }
        check.refuses("a times and a times", Check.UNSUPPORTED, () -> withJoins("*", 0, 1),
                house -> house.joinCut(4, 2, 7, 2));
        check.same("a times and the par of the duals", 9, withJoins("|", 0, 1).joinCut(4, 2, 8, 1));
        check.refuses("a times and the par of the duals in turn", Check.UNSUPPORTED, () -> withJoins("|", 1, 0),
                house -> house.joinCut(4, 2, 8, 1));
    }

    /** Derivation 4 has A, B and (a*b); 7 has A, B and (a*b) once more, and 8 has a par of two of them. */
    private static Sidelessly withJoins(String kind, int one, int other) {
        Sidelessly house = withFour();
        house.joinTimes(0, 0, 1, 0);
        house.axiom(0);
        house.axiom(2);
        house.joinTimes(5, 0, 6, 0);
        if (kind.equals("|")) {
            house.joinPar(7, one, other);
        }
        return house;
    }

    /** A cut makes no formula, so that the atoms of both conclusions are not counted. */
    private void largeCuts() {
        check.sentence("by a cut it leaves the others alone, if both are dual");
        Check.Recipe large = Houses::withLargeConclusion;
        check.refuses("12 atoms and 1", Check.UNSUPPORTED, large, house -> house.joinCut(19, 2, 0, 0));
        check.refuses("1 atom and 12", Check.UNSUPPORTED, large, house -> house.joinCut(0, 0, 19, 2));
        check.refuses("12 atoms and 1 that is used", Check.NO_SUCH, large, house -> house.joinCut(19, 2, 2, 0));
        Sidelessly eights = withEights();
        check.same("8 atoms and 8", 23, eights.joinCut(10, 0, 22, 2));
        check.same("the others of the second one", "0 1", shown(eights, 23));
        check.same("nine axioms", 9, eights.take(23));
        check.same("two conclusions and the cut", 4, eights.roots());
        check.same("it is a proof", true, eights.byContraction());
        check.same("seven joins and eight atoms vanish", 15, eights.normal());
        check.same("one link is left", 1, eights.linked(0));
        check.same("8 atoms and 8 in turn", 23, withEights().joinCut(22, 2, 10, 0));
        check.refuses("8 atoms and 1", Check.UNSUPPORTED, EdgesOfDerivationsTest::withEights,
                house -> house.joinCut(10, 0, 22, 0));
    }

    /** The derivation 10 has a times of four (a|A) alone, 22 has a, A and the dual of it; there are 23. */
    private static Sidelessly withEights() {
        Sidelessly house = Houses.withAxioms(0);
        int times = house.joinPar(house.axiom(0), 0, 1);
        for (int next = 1; next < 4; next++) {
            times = house.joinTimes(times, 0, house.joinPar(house.axiom(0), 0, 1), 0);
        }
        int chain = house.joinTimes(house.axiom(0), 1, house.axiom(0), 0);
        for (int next = 1; next < 4; next++) {
            chain = house.joinTimes(chain, next, house.axiom(0), 0);
        }
        chain = house.joinPar(chain, 1, 2);
        chain = house.joinPar(chain, 4, 1);
        house.joinPar(chain, 3, 2);
        return house;
    }

    private void howMany() {
        check.sentence("Returns how many conclusions a derivation has.");
        check.tells("the fewest", 1, () -> {
            Sidelessly house = Houses.withAxioms(1);
            house.joinPar(0, 0, 1);
            return house;
        }, house -> house.conclusions(1));
        check.tells("an axiom", 2, () -> Houses.withAxioms(1), house -> house.conclusions(0));
        check.tells("the most", 13, () -> star(12), house -> house.conclusions(22));
        check.tells("the last of the most", 12, () -> star(12), house -> house.conclusion(22, 12));
        check.refuses("one too far", Check.NO_SUCH, () -> star(12), house -> house.conclusion(22, 13));
    }

    private void takesInFull() {
        check.sentence("Throws UnsupportedOperationException if it has more than 24 leaves");
        check.same("24 leaves", 12, star(12).take(22));
        Sidelessly chain = chainOfCuts(12);
        check.same("24 leaves by cuts", 12, chain.take(22));
        check.same("2 conclusions and 22 formulas of cuts", 24, chain.roots());
        check.same("all leaves have come", 24, chain.clear());
        check.same("22 leaves", 11, chainOfCuts(11).take(20));
        check.same("2 leaves", 1, Houses.withAxioms(24).take(23));
    }

    private static Sidelessly chainOfCuts(int axioms) {
        Sidelessly house = Houses.withAxioms(axioms);
        int joined = 0;
        for (int next = 1; next < axioms; next++) {
            joined = house.joinCut(joined, 1, next, 0);
        }
        return house;
    }

    private void takesClear() {
        check.sentence("To take a derivation clears the bench, and lays its conclusions there in order");
        Sidelessly house = Houses.full();
        check.same("a full bench", 24, house.roots());
        check.same("take", 1, house.take(0));
        check.same("two roots", 2, house.roots());
        check.same("from 0 on", 0, house.rootAt(0));
        check.same("no cuts", 0, house.cuts());
        check.same("linked", 1, house.linked(0));
        check.same("no other leaf", "throws IndexOutOfBoundsException", Check.answerOf(() -> house.linked(2)));
        check.same("no other root", "throws IndexOutOfBoundsException", Check.answerOf(() -> house.rootAt(2)));
        check.same("22 leaves more have room", 2, house.place(0));
        check.same("three have come", 3, house.clear());
    }

    private void takesCuts() {
        check.sentence("then both formulas of each of its cuts, cuts of the first one that was joined coming ahead of "
                + "those of the second one, and a new one last, that of the first one ahead");
        Sidelessly house = withFour();
        for (int atom = 0; atom < 4; atom += 2) {
            house.axiom(atom);
        }
        house.joinCut(0, 1, 4, 0);
        house.joinCut(1, 0, 5, 1);
        house.joinTimes(7, 0, 6, 0);
        check.same("links", 4, house.take(8));
        StringBuilder roots = new StringBuilder();
        for (int root = 0; root < house.roots(); root++) {
            roots.append(house.rootAt(root)).append(' ');
        }
        check.same("conclusions, the cut of b, the cut of a", "2 1 10 2 3 1 0 ", roots.toString());
        check.same("two cuts", 2, house.cuts());
        check.same("the cut of b is the first one", 'a', house.step(0));
        check.same("it is gone", "throws IndexOutOfBoundsException", Check.answerOf(() -> house.rootAt(3)));
        check.same("that of a is left", 1, house.rootAt(5));
    }
}
