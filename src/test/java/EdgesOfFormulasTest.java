/** Promises 1 to 7 and 45, and the terms of formulas: each sentence that names a boundary, inside it and outside. */
public final class EdgesOfFormulasTest {
    private static final int[] NO_NUMBERS = {Integer.MIN_VALUE, -2, -1, 60, 61, Integer.MAX_VALUE};

    private final Check check = new Check("EdgesOfFormulasTest");

    public static void main(String[] args) {
        EdgesOfFormulasTest test = new EdgesOfFormulasTest();
        test.newHouse();
        test.lastCall();
        test.letters();
        test.turnedLetters();
        test.sixtyByAtoms();
        test.sixtyByJoins();
        test.sixtyByDuals();
        test.sixtyByDualOfFirst();
        test.sixtyByAxioms();
        test.sixtyByDerivations();
        test.thereAlready();
        test.thereAlreadyInFullHouse();
        test.twelveAtoms();
        test.twelveAtomsOfBothKinds();
        test.dualsOfAll();
        test.dualsInOrder();
        test.dualsThatAreHalfThere();
        test.noSuchFormula();
        test.kinds();
        test.parts();
        test.means();
        test.check.close();
    }

    private void newHouse() {
        check.sentence("Creates a house without formulas and derivations, and an empty bench.");
        check.refuses("kind", Check.INDEX, Sidelessly::new, house -> house.kind(0));
        check.refuses("meanAtoms", Check.ARITHMETIC, Sidelessly::new, house -> house.meanAtoms());
        check.refuses("conclusions", Check.INDEX, Sidelessly::new, house -> house.conclusions(0));
        check.refuses("rootAt", Check.INDEX, Sidelessly::new, house -> house.rootAt(0));
        check.refuses("linked", Check.INDEX, Sidelessly::new, house -> house.linked(0));
        check.refuses("linkShare", Check.ARITHMETIC, Sidelessly::new, house -> house.linkShare());
        check.tells("roots", 0, Sidelessly::new, house -> house.roots());
        check.tells("cuts", 0, Sidelessly::new, house -> house.cuts());
        check.tells("clear", 0, Sidelessly::new, house -> house.clear());
        check.tells("meaning", 1, Sidelessly::new, house -> house.meaning());
        check.tells("checksum", 7L * 31 * 31, Sidelessly::new, house -> house.checksum());
        check.same("first formula", 0, new Sidelessly().atom('e', true));
        check.same("first derivation", 0, Houses.withAtoms().axiom(9));
        check.same("first root", 0, Houses.withAtoms().place(9));
        Sidelessly other = new Sidelessly();
        Houses.full();
        check.same("a house beside a full one has no formula", 0, other.atom('a', false));
        check.same("nor a derivation", 0, other.axiom(0));
        check.same("nor a root", 0, other.place(0));
    }

    private void lastCall() {
        check.sentence("An object is used for at most 512 calls after it has been made");
        Sidelessly house = new Sidelessly();
        for (int call = 1; call <= 255; call++) {
            check.same("atom, call " + (2 * call - 1), call < 4 ? call - 1 : call % 3, toldInTurn(house, call));
            check.same("cuts, call " + 2 * call, 0, house.cuts());
        }
        check.same("place, call 511", 0, house.place(2));
        check.same("checksum, call 512", ((((7L * 31 + 2) * 31 - 1) * 31) + 0) * 31 + 3, house.checksum());
    }

    /** a, A and b for the first calls, then these again: b is the formula 2, a is 0, A is 1. */
    private static int toldInTurn(Sidelessly house, int call) {
        int sort = call < 4 ? call - 1 : call % 3;
        return house.atom(sort == 2 ? 'b' : 'a', sort == 1);
    }

    private void letters() {
        check.sentence("There are the atoms 'a' to 'e'");
        Sidelessly house = new Sidelessly();
        int due = 0;
        for (char letter = 'a'; letter <= 'e'; letter++) {
            check.same("plain " + letter, due++, house.atom(letter, false));
            check.same("turned " + letter, due++, house.atom(letter, true));
        }
        for (int start = 0; start < 65536; start += 128) {
            Sidelessly fresh = new Sidelessly();
            for (int sign = start; sign < start + 128; sign++) {
                char letter = (char) sign;
                if (letter < 'a' || letter > 'e') {
                    check.same("letter " + sign, "throws IllegalArgumentException",
                            Check.answerOf(() -> fresh.atom(letter, letter % 2 == 0)));
                }
            }
            check.same("nothing came of it", 0, fresh.atom('a', false));
        }
        for (char letter : new char[] {'`', 'f', 'A', 'E', 0, 65535}) {
            check.refuses("letter " + (int) letter, Check.ARGUMENT, Sidelessly::new, in -> in.atom(letter, false));
            check.refuses("turned letter " + (int) letter, Check.ARGUMENT, Sidelessly::new,
                    in -> in.atom(letter, true));
        }
    }

    private void turnedLetters() {
        check.sentence("each plain or turned");
        Sidelessly house = new Sidelessly();
        check.same("turned first", 0, house.atom('e', true));
        check.same("the plain one is another one", 1, house.atom('e', false));
        check.same("kind of the turned one", 'E', house.kind(0));
        check.same("kind of the plain one", 'e', house.kind(1));
    }

    /** a, A and the chain of pars of a with up to 12 atoms, and then joins of d, in all so many. */
    private static Sidelessly with(int formulas) {
        Sidelessly house = Houses.withChain(true, 12);
        Houses.fillFormulas(house, formulas);
        return house;
    }

    private void sixtyByAtoms() {
        check.sentence("At most 60 are numbered from 0; atom: IllegalStateException if there would be more than 60");
        check.same("the 60th plain one", 59, with(59).atom('c', false));
        check.same("the 60th turned one", 59, with(59).atom('c', true));
        check.refuses("the 61st plain one", Check.STATE, () -> with(60), house -> house.atom('c', false));
        check.refuses("the 61st turned one", Check.STATE, () -> with(60), house -> house.atom('c', true));
        check.refuses("the 61st, its dual being there", Check.STATE, () -> with(60), house -> house.atom('d', true));
        check.tells("kind of the 60th", true, () -> with(60), house -> house.kind(59) != 0);
    }

    private void sixtyByJoins() {
        check.sentence("At most 60; times and par: IllegalStateException if there would be more than 60 formulas");
        check.same("the 60th by times", 59, with(59).times(0, 1));
        check.same("the 60th by par", 59, with(59).par(0, 1));
        check.refuses("the 61st by times", Check.STATE, () -> with(60), house -> house.times(0, 1));
        check.refuses("the 61st by par", Check.STATE, () -> with(60), house -> house.par(0, 1));
        check.refuses("the 61st by times of the same", Check.STATE, () -> with(60), house -> house.times(0, 0));
        check.refuses("the 61st by par of the same", Check.STATE, () -> with(60), house -> house.par(1, 1));
    }

    /** The chain of n atoms is the formula n; its dual takes n - 1 formulas, as the atom A is there. */
    private void sixtyByDuals() {
        check.sentence("At most 60; dual: IllegalStateException if there would be more than 60 formulas");
        for (int atoms = 2; atoms <= 12; atoms++) {
            int chain = atoms;
            check.same("a dual that takes the last " + (atoms - 1), 59, with(61 - atoms).dual(chain));
            check.refuses("a dual that takes one more", Check.STATE, () -> with(62 - chain),
                    house -> house.dual(chain));
            check.refuses("a dual in a full house", Check.STATE, () -> with(60), house -> house.dual(chain));
        }
        check.same("of an atom", 59, with(59).dual(13));
        check.refuses("of an atom, without room", Check.STATE, () -> with(60), house -> house.dual(13));
    }

    private void sixtyByDualOfFirst() {
        check.sentence("At most 60; dual: IllegalStateException if there would be more than 60 formulas");
        for (int told = 58; told <= 60; told++) {
            int many = told;
            Check.Recipe recipe = () -> {
                Sidelessly house = new Sidelessly();
                house.times(house.atom('a', false), 0);
                Houses.fillFormulas(house, many);
                return house;
            };
            check.answers("of the first atom, behind " + told, told > 59 ? Check.STATE : Check.NOTHING, told, recipe,
                    house -> house.dual(0));
            check.answers("of the times of it, behind " + told, told > 58 ? Check.STATE : Check.NOTHING, 59, recipe,
                    house -> house.dual(1));
        }
    }

    private void sixtyByAxioms() {
        check.sentence("At most 60; axiom: IllegalStateException if there would be more than 60 formulas");
        Sidelessly last = with(59);
        check.same("an axiom with the 60th", 0, last.axiom(13));
        check.same("which is the turned atom", 'D', last.kind(59));
        check.same("and the second conclusion", 59, last.conclusion(0, 1));
        check.refuses("an axiom with the 61st", Check.STATE, () -> with(60), house -> house.axiom(13));
        check.same("an axiom without a new one", 0, with(60).axiom(0));
    }

    private static Sidelessly withTwoAxioms(int formulas) {
        Sidelessly house = with(formulas);
        house.axiom(0);
        house.axiom(0);
        return house;
    }

    private void sixtyByDerivations() {
        check.sentence("At most 60; joinPar and joinTimes: if there would be more than 60 formulas");
        Sidelessly par = withTwoAxioms(59);
        check.same("joinPar with the 60th", 2, par.joinPar(0, 0, 1));
        check.same("it is the conclusion", 59, par.conclusion(2, 0));
        check.refuses("joinPar with the 61st", Check.STATE, () -> withTwoAxioms(60), house -> house.joinPar(0, 0, 1));
        Sidelessly times = withTwoAxioms(59);
        check.same("joinTimes with the 60th", 2, times.joinTimes(0, 0, 1, 1));
        check.same("it is the last conclusion", 59, times.conclusion(2, 2));
        check.refuses("joinTimes with the 61st", Check.STATE, () -> withTwoAxioms(60),
                house -> house.joinTimes(0, 0, 1, 1));
        check.same("joinCut needs none", 2, withTwoAxioms(60).joinCut(0, 0, 1, 1));
    }

    private void thereAlready() {
        check.sentence("one that is there is not added anew");
        Sidelessly house = Houses.withAtoms();
        check.same("plain atom", 0, house.atom('a', false));
        check.same("turned atom", 9, house.atom('e', true));
        check.same("times", 10, house.times(0, 2));
        check.same("times again", 10, house.times(0, 2));
        check.same("times of the same parts in turn is another one", 11, house.times(2, 0));
        check.same("par of the same parts is another one", 12, house.par(0, 2));
        check.same("par again", 12, house.par(0, 2));
        check.same("dual of the times, a par", 13, house.dual(10));
        check.same("told by par", 13, house.par(1, 3));
        check.same("dual again", 13, house.dual(10));
        check.same("dual of the dual", 10, house.dual(13));
        check.same("a dual that was told by times", 14, house.times(1, 3));
        check.same("is found", 14, house.dual(12));
        check.same("an axiom adds none", 0, house.axiom(0));
        check.same("nor one more", 1, house.axiom(2));
        house.joinTimes(0, 0, 1, 0);
        check.same("joinTimes adds none that is there", 10, house.conclusion(2, 2));
        house.joinPar(2, 0, 1);
        check.same("joinPar adds none that is there", 13, house.conclusion(3, 1));
        check.same("the next one", 15, house.par(0, 0));
        Sidelessly lone = new Sidelessly();
        lone.atom('d', true);
        check.same("the dual of an atom", 1, lone.dual(0));
        check.same("is the atom", 1, lone.atom('d', false));
        check.same("the dual of a times", 3, lone.dual(lone.times(0, 1)));
        check.same("is the par", 3, lone.par(1, 0));
        Sidelessly derived = new Sidelessly();
        derived.axiom(derived.atom('d', true));
        check.same("the dual of an axiom is the atom", 1, derived.atom('d', false));
    }

    private void thereAlreadyInFullHouse() {
        check.sentence("At most 60 are numbered from 0; one that is there is not added anew.");
        Check.Recipe full = () -> {
            Sidelessly house = Houses.withAtoms();
            house.times(0, 0);
            house.par(1, 1);
            house.par(0, 1);
            Houses.fillFormulas(house, 60);
            return house;
        };
        check.tells("atom", 3, full, house -> house.atom('b', true));
        check.tells("times", 10, full, house -> house.times(0, 0));
        check.tells("par", 12, full, house -> house.par(0, 1));
        check.tells("dual of an atom", 8, full, house -> house.dual(9));
        check.tells("dual of a times", 11, full, house -> house.dual(10));
        check.tells("dual of a par", 10, full, house -> house.dual(11));
        Sidelessly house = full.make();
        check.same("axiom", 0, house.axiom(0));
        check.same("one more", 1, house.axiom(0));
        check.same("joinTimes", 2, house.joinTimes(0, 0, 1, 0));
        check.same("joinPar", 3, house.joinPar(2, 1, 0));
        check.same("its formula", 11, house.conclusion(3, 1));
        check.same("none came", 60, Houses.formulas(house));
    }

    private static int join(Sidelessly house, boolean isPar, int first, int second) {
        return isPar ? house.par(first, second) : house.times(first, second);
    }

    private void twelveAtoms() {
        check.sentence("Throws IllegalArgumentException if it would have more than 12 atoms");
        for (boolean isPar : new boolean[] {false, true}) {
            for (int first = 1; first <= 12; first++) {
                for (int second = 1; second <= 12; second++) {
                    int one = first == 1 ? 0 : first;
                    int other = second == 1 ? 1 : second;
                    Check.Recipe recipe = () -> Houses.withChain(!isPar, 12);
                    String what = (isPar ? "par of " : "times of ") + first + " and " + second + " atoms";
                    check.answers(what, first + second > 12 ? Check.ARGUMENT : Check.NOTHING, 13, recipe,
                            house -> join(house, isPar, one, other));
                }
            }
        }
    }

    private void twelveAtomsOfBothKinds() {
        check.sentence("Throws IllegalArgumentException if it would have more than 12 atoms");
        for (boolean isPar : new boolean[] {false, true}) {
            Check.Recipe recipe = () -> Houses.withChain(isPar, 12);
            check.same("11 and 1, of the same kind, is there", 12, join(recipe.make(), isPar, 11, 0));
            check.refuses("12 and 1", Check.ARGUMENT, recipe, house -> join(house, isPar, 12, 0));
            check.refuses("1 and 12", Check.ARGUMENT, recipe, house -> join(house, isPar, 1, 12));
            check.same("6 and the same", 13, join(recipe.make(), isPar, 6, 6));
            check.refuses("7 and the same", Check.ARGUMENT, recipe, house -> join(house, isPar, 7, 7));
            check.refuses("12 and the same", Check.ARGUMENT, recipe, house -> join(house, isPar, 12, 12));
            check.same("the dual has 12 as well", 23, recipe.make().dual(12));
        }
    }

    private void dualsOfAll() {
        check.sentence("The dual of an atom is the one turned about; that of a times of two is the par of both duals, "
                + "of a par the times, in the same order.");
        Sidelessly house = Houses.withAtoms();
        for (int atom = 0; atom < 10; atom++) {
            check.same("dual of atom " + atom, atom ^ 1, house.dual(atom));
        }
        check.same("times", 10, house.times(0, 3));
        check.same("its dual", 11, house.dual(10));
        check.same("is a par", '|', house.kind(11));
        check.same("of the first dual", 1, house.part(11, false));
        check.same("and the second one", 2, house.part(11, true));
        check.same("a par", 12, house.par(4, 4));
        check.same("its dual", 13, house.dual(12));
        check.same("is a times", '*', house.kind(13));
        check.same("of the same", 5, house.part(13, false));
        check.same("twice", 5, house.part(13, true));
    }

    private void dualsInOrder() {
        check.sentence("Tells the dual of a formula, its parts ahead of it, first ones first.");
        Sidelessly atom = new Sidelessly();
        atom.atom('c', true);
        check.same("an atom alone", 1, atom.dual(0));
        check.same("turned about", 'c', atom.kind(1));
        Sidelessly house = new Sidelessly();
        int whole = Houses.told(house, "((a|b)*(c|(d*E)))");
        check.same("the whole", 8, whole);
        check.same("its dual", 17, house.dual(whole));
        StringBuilder kinds = new StringBuilder();
        for (int formula = 9; formula <= 17; formula++) {
            kinds.append(house.kind(formula));
        }
        check.same("in order", "AB*CDe|*|", kinds.toString());
        Sidelessly again = new Sidelessly();
        int twice = Houses.told(again, "((b|a)*(a|b))");
        check.same("the whole", 4, twice);
        check.same("parts that come twice are told once", 9, again.dual(twice));
        check.same("the first part of the first one", 'B', again.kind(5));
        check.same("and the second one", 'A', again.kind(6));
    }

    private void dualsThatAreHalfThere() {
        check.sentence("IllegalStateException if there would be more than 60 formulas");
        for (int told = 2; told <= 10; told += 4) {
            int tail = told;
            Check.Recipe tight = () -> {
                Sidelessly house = Houses.withChain(false, 12);
                house.dual(tail);
                Houses.fillFormulas(house, 60 - (12 - tail));
                return house;
            };
            check.same("the chain of " + tail + " has its dual, that of 12 has room", 59, tight.make().dual(12));
            check.refuses("one less of room", Check.STATE, () -> {
                Sidelessly house = tight.make();
                house.atom('c', false);
                return house;
            }, house -> house.dual(12));
        }
    }

    private void noSuchFormula() {
        check.sentence("Throws IndexOutOfBoundsException if there is no such formula");
        for (int bad : NO_NUMBERS) {
            for (int formulas : new int[] {13, 60}) {
                noSuchFormula(bad, () -> with(formulas));
            }
            noSuchFormula(bad, Sidelessly::new);
        }
        noSuchFormula(0, Sidelessly::new);
        noSuchFormula(13, () -> with(13));
        check.tells("the last one", 'd', () -> with(14), house -> house.kind(13));
    }

    private void noSuchFormula(int bad, Check.Recipe recipe) {
        check.refuses("times of " + bad, Check.INDEX, recipe, house -> house.times(bad, 0));
        check.refuses("times with " + bad, Check.INDEX, recipe, house -> house.times(0, bad));
        check.refuses("times of twice " + bad, Check.INDEX, recipe, house -> house.times(bad, bad));
        check.refuses("par of " + bad, Check.INDEX, recipe, house -> house.par(bad, 0));
        check.refuses("par with " + bad, Check.INDEX, recipe, house -> house.par(0, bad));
        check.refuses("par of twice " + bad, Check.INDEX, recipe, house -> house.par(bad, bad));
        check.refuses("dual of " + bad, Check.INDEX, recipe, house -> house.dual(bad));
        check.refuses("kind of " + bad, Check.INDEX, recipe, house -> house.kind(bad));
        check.refuses("first part of " + bad, Check.INDEX, recipe, house -> house.part(bad, false));
        check.refuses("second part of " + bad, Check.INDEX, recipe, house -> house.part(bad, true));
        check.refuses("axiom of " + bad, Check.INDEX, recipe, house -> house.axiom(bad));
        check.refuses("place of " + bad, Check.INDEX, recipe, house -> house.place(bad));
        check.refuses("value of " + bad, Check.INDEX, recipe, house -> house.value(bad));
        check.refuses("counter of " + bad, Check.INDEX, recipe, house -> house.counter(bad));
    }

    private void kinds() {
        check.sentence("Returns the letter of an atom, in capitals if it is turned, '*' for times, '|' for par.");
        Check.Recipe recipe = () -> {
            Sidelessly house = Houses.withAtoms();
            house.times(0, 0);
            house.par(0, 0);
            return house;
        };
        String due = "aAbBcCdDeE*|";
        for (int formula = 0; formula < due.length(); formula++) {
            int one = formula;
            check.tells("kind of " + formula, due.charAt(formula), recipe, house -> house.kind(one));
        }
        check.refuses("one too far", Check.INDEX, recipe, house -> house.kind(12));
    }

    private void parts() {
        check.sentence("Throws NoSuchElementException if it is an atom");
        for (int atom = 0; atom < 10; atom++) {
            int one = atom;
            check.refuses("first part of " + atom, Check.NO_SUCH, Houses::withAtoms, house -> house.part(one, false));
            check.refuses("second part of " + atom, Check.NO_SUCH, Houses::withAtoms, house -> house.part(one, true));
        }
        check.tells("first part of the largest one", 11, () -> Houses.withChain(true, 12),
                house -> house.part(12, false));
        check.tells("second part of the largest one", 0, () -> Houses.withChain(true, 12),
                house -> house.part(12, true));
        check.tells("first part of the 60th", true, () -> with(60), house -> house.part(59, false) < 59);
    }

    private void means() {
        check.sentence("Returns the sum divided by how many formulas there are, both converted to double; "
                + "ArithmeticException if there are none");
        check.refuses("of none", Check.ARITHMETIC, Sidelessly::new, house -> house.meanAtoms());
        check.tells("of one", 1.0, () -> Houses.withRoots("a"), house -> house.meanAtoms());
        check.tells("of two", 3.0 / 2.0, () -> {
            Sidelessly house = new Sidelessly();
            house.times(house.atom('a', false), 0);
            return house;
        }, house -> house.meanAtoms());
        check.tells("of thirteen, up to 12 atoms", 79.0 / 13.0, () -> Houses.withChain(true, 12),
                house -> house.meanAtoms());
        check.tells("of sixty", (10.0 + 50.0 * 2.0) / 60.0, () -> Houses.withFormulas(60), house -> house.meanAtoms());
        check.tells("of formulas, not of roots", 1.0, () -> Houses.withRoots("a", "A", "a"),
                house -> house.meanAtoms());
    }
}
