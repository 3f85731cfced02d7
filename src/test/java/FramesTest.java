import java.util.LinkedHashMap;
import java.util.Map;
import java.util.Set;
import java.util.TreeSet;

/**
 * Each call changes what it says and nothing else: one thing after the other is asked of a new house without the call
 * and of one with it, and what differs has to be among what the call is told to change.
 */
public final class FramesTest {
    private static final String TESTS = "byChoices|badChoice|byContraction|byTrips|splits|trees|";
    private static final String MEANING = "meaning|isClique|";
    private static final String BENCH = "roots|root \\d+|leaf \\d+|cuts|step \\d+|next root|leaves come|linkShare|"
            + "checksum|proofs|" + TESTS + MEANING;
    private static final String NEW_FORMULA = "formula 1\\d|value 1\\d|next formula|meanAtoms|checksum|";

    private final Check check = new Check("FramesTest");

    public static void main(String[] args) {
        FramesTest test = new FramesTest();
        test.formulas();
        test.derivations();
        test.bench();
        test.cuts();
        test.meanings();
        test.monoids();
        test.search();
        test.lookers();
        test.check.close();
    }

    /**
     * The formulas a, A, b, B, (a*b), (A|B), c, (a*c), (b|c) and (a|(b|c)) are 0 to 9. The derivations 3, 5 and 6 are
     * not used: A, B, (a*b) by the axioms 0 and 2; the axiom of b; and a, A with a cut of the axioms 1 and 4.
     */
    private static Sidelessly told() {
        Sidelessly house = new Sidelessly();
        for (String text : new String[] {"a", "A", "b", "B", "(a*b)", "(A|B)", "c", "(a*c)"}) {
            Houses.told(house, text);
        }
        house.par(0, house.par(2, 6));
        for (int atom : new int[] {0, 0, 2}) {
            house.axiom(atom);
        }
        house.joinTimes(0, 0, 2, 0);
        house.axiom(0);
        house.axiom(2);
        house.joinCut(1, 1, 4, 0);
        house.points('a', 3);
        house.near('a', 0, 2, true);
        house.points('b', 1);
        house.near('c', 0, 1, true);
        house.near('d', 0, 1, true);
        house.near('e', 0, 1, true);
        house.monoid(3, 5);
        house.set('a', 3);
        house.set('b', 6);
        house.set('c', 5);
        house.set('d', 1);
        house.set('e', 1);
        return house;
    }

    /**
     * The roots (a*b), (A|B), (a*b), (A|B), a, A, B, b have come, and then a and A that are gone by a step; 0-2, 1-3,
     * 4-6, 5-7, 8-9 are linked; the root 1 is cut with the root 2.
     */
    private static Sidelessly withAll() {
        Sidelessly house = told();
        for (int formula : new int[] {4, 5, 4, 5, 0, 1, 3, 2, 0, 1}) {
            house.place(formula);
        }
        Houses.linking(house, 0, 2, 1, 3, 4, 6, 5, 7, 8, 13, 9, 12);
        house.cut(8, 9);
        house.step(0);
        house.cut(1, 2);
        return house;
    }

    /** The roots a, A, a, A have come, and 0-3 and 1-2 are linked. */
    private static Sidelessly withFour() {
        Sidelessly house = told();
        for (int formula : new int[] {0, 1, 0, 1}) {
            house.place(formula);
        }
        return Houses.linking(house, 0, 3, 1, 2);
    }

    private static Map<String, Check.HouseCall> questions() {
        Map<String, Check.HouseCall> asked = new LinkedHashMap<>();
        askFormulas(asked);
        askDerivations(asked);
        askBench(asked);
        askNet(asked);
        askLetters(asked);
        return asked;
    }

    private static void askFormulas(Map<String, Check.HouseCall> asked) {
        for (int number = 0; number < 14; number++) {
            int formula = number;
            asked.put("formula " + formula, house -> house.kind(formula) + " " + Check.answerOf(
                    () -> house.part(formula, false)) + " " + Check.answerOf(() -> house.part(formula, true)));
            asked.put("value " + formula, house -> house.value(formula));
        }
        asked.put("next formula", house -> house.atom('e', true));
        asked.put("meanAtoms", Sidelessly::meanAtoms);
        asked.put("checksum", Sidelessly::checksum);
    }

    private static void askDerivations(Map<String, Check.HouseCall> asked) {
        for (int number = 0; number < 9; number++) {
            int derivation = number;
            asked.put("derivation " + derivation, house -> {
                house.take(derivation);
                return seenOn(house);
            });
            asked.put("conclusions " + derivation, house -> {
                StringBuilder text = new StringBuilder();
                for (int index = 0; index < house.conclusions(derivation); index++) {
                    text.append(house.conclusion(derivation, index)).append(' ');
                }
                return text.toString();
            });
            asked.put("used " + derivation, house -> house.joinPar(derivation, 0, 1) > 0);
        }
        asked.put("next derivation", house -> house.axiom(0));
    }

    private static String seenOn(Sidelessly house) {
        StringBuilder text = new StringBuilder();
        for (int root = 0; root < house.roots(); root++) {
            text.append(house.rootAt(root)).append(' ');
        }
        for (int number = 0; number < 24; number++) {
            int leaf = number;
            text.append(Check.answerOf(() -> house.linked(leaf))).append(' ');
        }
        return text.append(house.cuts()).toString();
    }

    private static void askBench(Map<String, Check.HouseCall> asked) {
        asked.put("roots", Sidelessly::roots);
        asked.put("cuts", Sidelessly::cuts);
        for (int number = 0; number < 16; number++) {
            int root = number;
            asked.put("root " + root, house -> house.rootAt(root));
        }
        for (int number = 0; number < 24; number++) {
            int leaf = number;
            asked.put("leaf " + leaf, house -> Check.answerOf(() -> house.linked(leaf)) + " "
                    + Check.answerOf(() -> house.walk(leaf)) + " " + Check.answerOf(() -> house.passes(leaf)));
        }
        for (int number = 0; number < 3; number++) {
            int cut = number;
            asked.put("step " + cut, house -> house.step(cut) + " " + house.checksum());
        }
        asked.put("next root", house -> house.place(0));
        asked.put("leaves come", Sidelessly::clear);
        asked.put("linkShare", Sidelessly::linkShare);
        asked.put("proofs", Sidelessly::proofs);
    }

    private static void askNet(Map<String, Check.HouseCall> asked) {
        asked.put("byChoices", Sidelessly::byChoices);
        asked.put("badChoice", Sidelessly::badChoice);
        asked.put("byContraction", Sidelessly::byContraction);
        asked.put("byTrips", Sidelessly::byTrips);
        asked.put("splits", Sidelessly::splits);
        asked.put("trees", Sidelessly::trees);
        asked.put("meaning", Sidelessly::meaning);
        asked.put("isClique", Sidelessly::isClique);
        asked.put("isTrue", Sidelessly::isTrue);
    }

    private static void askLetters(Map<String, Check.HouseCall> asked) {
        for (char sign = 'a'; sign <= 'e'; sign++) {
            char letter = sign;
            asked.put("points " + letter, house -> house.points(letter, 1));
            asked.put("near " + letter + " 0 1", house -> house.near(letter, 0, 1, false));
            asked.put("near " + letter + " 0 2", house -> house.near(letter, 0, 2, false));
            asked.put("near " + letter + " 1 2", house -> house.near(letter, 1, 2, false));
            asked.put("set " + letter, house -> house.set(letter, 0));
        }
        asked.put("size", house -> house.monoid(1, 0));
    }

    /** The names of the questions that are answered in another way behind the call. */
    private Set<String> differences(Check.Recipe recipe, Check.HouseCall call) {
        Set<String> differing = new TreeSet<>();
        for (Map.Entry<String, Check.HouseCall> asked : questions().entrySet()) {
            Sidelessly before = recipe.make();
            Sidelessly behind = recipe.make();
            call.make(behind);
            Object due = Check.answerOf(() -> asked.getValue().make(before));
            if (!due.equals(Check.answerOf(() -> asked.getValue().make(behind)))) {
                differing.add(asked.getKey());
            }
        }
        return differing;
    }

    /** The call changes all of some things, told by their names, and perhaps what a pattern tells, and nothing else. */
    private void changes(String what, String things, String perhaps, Check.Recipe recipe, Check.HouseCall call) {
        Set<String> left = new TreeSet<>(differences(recipe, call));
        for (String thing : things.split(", ")) {
            if (!thing.isEmpty()) {
                check.same(what + " changes " + thing, true, left.remove(thing));
            }
        }
        left.removeIf(thing -> thing.matches(perhaps));
        check.same(what + " changes nothing else", "[]", left.toString());
    }

    private void formulas() {
        Check.Recipe all = FramesTest::withAll;
        changes("a new atom", "formula 10, next formula", NEW_FORMULA + "step 0", all, house -> house.atom('d', true));
        changes("an atom that is there", "", "", all, house -> house.atom('b', true));
        changes("a new times", "formula 10, next formula", NEW_FORMULA + "step 0", all, house -> house.times(0, 4));
        changes("a times that is there", "", "", all, house -> house.times(0, 2));
        changes("a new par", "formula 10, next formula", NEW_FORMULA + "step 0", all, house -> house.par(0, 4));
        changes("a par that is there", "", "", all, house -> house.par(1, 3));
        changes("a new dual", "formula 10, formula 11, next formula", NEW_FORMULA + "step 0", all,
                house -> house.dual(7));
        changes("a dual that is there", "", "", all, house -> house.dual(4));
    }

    private void derivations() {
        Check.Recipe all = FramesTest::withAll;
        changes("an axiom", "derivation 7, conclusions 7, used 7, next derivation", "", all, house -> house.axiom(1));
        changes("an axiom of a new dual", "formula 10, derivation 7, conclusions 7, used 7, next derivation",
                NEW_FORMULA + "step 0", all, house -> house.axiom(6));
        changes("joinPar", "derivation 7, conclusions 7, used 3, used 7, next derivation", "", all,
                house -> house.joinPar(3, 0, 1));
        changes("joinPar of a cut", "formula 10, derivation 7, conclusions 7, used 6, next derivation",
                NEW_FORMULA + "step 0", all, house -> house.joinPar(6, 1, 0));
        changes("joinTimes", "derivation 7, conclusions 7, used 5, used 6, used 7, next derivation", "", all,
                house -> house.joinTimes(6, 0, 5, 0));
        changes("joinCut", "derivation 7, conclusions 7, used 3, used 6, used 7, next derivation", "", all,
                house -> house.joinCut(3, 0, 6, 0));
        changes("take", "root 0, root 1, roots, leaf 3, next root, leaves come", BENCH, all,
                house -> house.take(3));
        changes("take of a used one", "root 0, root 1, root 2, roots, cuts, leaf 3, next root, leaves come", BENCH,
                all, house -> house.take(0));
    }

    private void bench() {
        Check.Recipe all = FramesTest::withAll;
        changes("place", "roots, root 10, leaf 14, next root, leaves come, linkShare, checksum",
                TESTS + MEANING + "step 0|leaf 15", all, house -> house.place(4));
        changes("link", "leaf 10, leaf 11, linkShare, checksum", TESTS + MEANING + "step 0", all,
                house -> house.link(11, 10));
        changes("unlink", "leaf 8, leaf 9, linkShare, checksum", TESTS + MEANING + "step 0", all,
                house -> house.unlink(9));
        changes("cut", "cuts, step 1, checksum", TESTS + MEANING + "step 0|leaf 1[01]", all,
                house -> house.cut(7, 6));
        changes("clear", "roots, root 0, root 7, leaf 0, leaf 10, cuts, step 0, next root, leaves come", BENCH, all,
                Sidelessly::clear);
        changes("clear of a clear bench", "", "", FramesTest::told, Sidelessly::clear);
    }

    private void cuts() {
        Check.Recipe all = FramesTest::withAll;
        changes("a step of joins", "root 1, root 2, root 10, root 11, root 12, root 13, roots, cuts, step 0, step 1, "
                + "next root, checksum", "", all, house -> house.step(0));
        Check.Recipe stepped = () -> {
            Sidelessly house = withAll();
            house.step(0);
            return house;
        };
        changes("a step of atoms", "root 12, root 13, leaf 1, leaf 3, leaf 5, leaf 7, roots, cuts, step 0, step 1, "
                + "linkShare, checksum", "", stepped, house -> house.step(1));
        changes("normal", "root 1, root 2, leaf 0, leaf 1, leaf 2, leaf 3, leaf 4, leaf 5, leaf 6, leaf 7, roots, "
                + "cuts, step 0, next root, checksum", "linkShare|proofs", all, Sidelessly::normal);
        changes("normal without cuts", "", "", FramesTest::withFour, Sidelessly::normal);
    }

    private void meanings() {
        Check.Recipe four = FramesTest::withFour;
        changes("points", "points a, near a 0 2, meaning", "near a 1 2|isClique", four, house -> house.points('a', 2));
        changes("as many points again", "near a 0 2", "isClique", four, house -> house.points('a', 3));
        changes("points of a letter that is not there", "points e", "near e 0 [12]", four,
                house -> house.points('e', 1));
        changes("near", "near a 0 1", "isClique", four, house -> house.near('a', 1, 0, true));
        changes("near no more", "near a 0 2", "isClique", four, house -> house.near('a', 0, 2, false));
        changes("near as it was", "", "", four, house -> house.near('a', 2, 0, true));
        changes("near of another letter", "near d 0 1", "", four, house -> house.near('d', 1, 0, false));
    }

    private void monoids() {
        Check.Recipe all = FramesTest::withAll;
        String sets = "set a, set b, set c, set d, set e";
        changes("monoid", "size, " + sets, "value \\d", all, house -> house.monoid(2, 2));
        changes("the same monoid", sets, "value \\d", all, house -> house.monoid(3, 5));
        changes("set", "set b", "value [234589]", all, house -> house.set('b', 2));
        changes("set of a letter that is not there", "set e", "", all, house -> house.set('e', 2));
        changes("the same set", "", "", all, house -> house.set('c', 5));
        changes("counter", "size, " + sets, "value \\d", all, house -> house.counter(4));
    }

    private void search() {
        Check.Recipe square = () -> {
            Sidelessly house = told();
            Houses.placeAll(house, "(a*a)", "A", "A");
            return Houses.linking(house, 0, 2, 1, 3);
        };
        changes("the other proof", "leaf 0, leaf 1, leaf 2, leaf 3, checksum", "", square, house -> house.proof(1));
        changes("the proof that is there", "", "", square, house -> house.proof(0));
    }

    private void lookers() {
        for (Map.Entry<String, Check.HouseCall> asked : questions().entrySet()) {
            boolean isOnlyTold = !asked.getKey().matches("next .*|used .*|derivation .*|step .*|leaves come|points .*"
                    + "|near .*|set .*|size");
            if (isOnlyTold) {
                changes(asked.getKey(), "", "", FramesTest::withAll,
                        house -> Check.answerOf(() -> asked.getValue().make(house)));
                changes(asked.getKey(), "", "", FramesTest::withFour,
                        house -> Check.answerOf(() -> asked.getValue().make(house)));
            }
        }
    }
}
