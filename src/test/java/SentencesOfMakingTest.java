/** Each sentence of the promises 1 to 22, in the order of the document: formulas, derivations and the bench. */
public final class SentencesOfMakingTest {
    private static final String INDEX = Sentences.INDEX;
    private static final String ARGUMENT = Sentences.ARGUMENT;
    private static final String STATE = Sentences.STATE;
    private static final String UNSUPPORTED = Sentences.UNSUPPORTED;
    private static final String NO_SUCH = Sentences.NO_SUCH;

    private final Sentences document = new Sentences("SentencesOfMakingTest");

    public static void main(String[] args) {
        SentencesOfMakingTest test = new SentencesOfMakingTest();
        test.newObject();
        test.atom();
        test.times();
        test.par();
        test.dual();
        test.kindAndPart();
        test.axiom();
        test.joinPar();
        test.joinTimes();
        test.joinCut();
        test.conclusions();
        test.take();
        test.place();
        test.link();
        test.unlink();
        test.cut();
        test.clear();
        test.roots();
        test.linked();
        test.document.close(name -> name.matches("Promise ([1-9]|1[0-9]|2[0-2])"));
    }

    private void promise(int number) {
        document.in("Promise " + number);
    }

    private void says(String words) {
        document.says(words);
    }

    private void is(Object due, Check.Call call) {
        document.is(due, call);
    }

    private void newObject() {
        promise(1);
        says("Creates a house without formulas and derivations, and an empty bench.");
        is(INDEX, () -> new Sidelessly().kind(0));
        is(Sentences.ARITHMETIC, () -> new Sidelessly().meanAtoms());
        is(INDEX, () -> new Sidelessly().conclusions(0));
        is(0, () -> new Sidelessly().roots());
        is(0, () -> new Sidelessly().cuts());
        is(0, () -> new Sidelessly().clear());
        is(Sentences.ARITHMETIC, () -> new Sidelessly().linkShare());
        is(6727L, () -> new Sidelessly().checksum());
        Sidelessly first = new Sidelessly();
        Sidelessly second = new Sidelessly();
        is("0 0 0", () -> first.atom('c', true) + " " + first.axiom(0) + " " + first.place(0));
        is("0 0 0", () -> second.atom('a', false) + " " + second.axiom(0) + " " + second.place(0));
        is("C a", () -> first.kind(0) + " " + second.kind(0));
    }

    private void atom() {
        promise(2);
        Sidelessly house = new Sidelessly();
        says("Tells an atom.");
        is(0, () -> house.atom('c', true));
        is(NO_SUCH, () -> house.part(0, false));
        says("letter: 'a' to 'e'");
        is(1, () -> house.atom('a', false));
        is(2, () -> house.atom('e', false));
        is("a e", () -> house.kind(1) + " " + house.kind(2));
        says("isTurned: whether it is turned");
        is(3, () -> house.atom('a', true));
        is("C A", () -> house.kind(0) + " " + house.kind(3));
        says("Returns the number of the formula.");
        is(0, () -> house.atom('c', true));
        is(1, () -> house.atom('a', false));
        is(4, () -> house.atom('c', false));
        says("Throws IllegalArgumentException if there is no such letter");
        for (char letter : new char[] {'`', 'f', 'A', 'E', '*', '|', 0, 'a' + 256, 65535}) {
            is(ARGUMENT, () -> house.atom(letter, false));
            is(ARGUMENT, () -> house.atom(letter, true));
        }
        says("Throws IllegalStateException if there would be more than 60 formulas");
        Sidelessly full = new Sidelessly();
        Houses.fillFormulas(full, 59);
        is(59, () -> full.atom('b', false));
        is(STATE, () -> full.atom('b', true));
        is(STATE, () -> full.atom('a', false));
        is(59, () -> full.atom('b', false));
    }

    /** Formulas a and A, and times or pars of 2 to 12 atoms a, a formula of n atoms having the number n. */
    private static Sidelessly withSizes(boolean isPar) {
        return Houses.withChain(isPar, 12);
    }

    private static int join(Sidelessly house, boolean isPar, int first, int second) {
        return isPar ? house.par(first, second) : house.times(first, second);
    }

    private void times() {
        promise(3);
        says("Tells the times of two formulas.");
        Sidelessly house = Houses.withAtoms();
        is(10, () -> house.times(2, 5));
        is("* 2 5", () -> house.kind(10) + " " + house.part(10, false) + " " + house.part(10, true));
        joins(false);
    }

    private void par() {
        promise(4);
        says("Tells the par of two formulas.");
        Sidelessly house = Houses.withAtoms();
        is(10, () -> house.par(2, 5));
        is("| 2 5", () -> house.kind(10) + " " + house.part(10, false) + " " + house.part(10, true));
        joins(true);
    }

    private void joins(boolean isPar) {
        Sidelessly house = withSizes(isPar);
        says("first: a formula");
        is(13, () -> join(house, isPar, 1, 2));
        is("1 2", () -> house.part(13, false) + " " + house.part(13, true));
        says("second: a formula, perhaps the same");
        is(14, () -> join(house, isPar, 2, 1));
        is(15, () -> join(house, isPar, 2, 2));
        is("2 2", () -> house.part(15, false) + " " + house.part(15, true));
        says("Returns the number of the formula.");
        is(2, () -> join(house, isPar, 0, 0));
        is(13, () -> join(house, isPar, 1, 2));
        is(16, () -> join(house, !isPar, 1, 2));
        says("Throws IndexOutOfBoundsException if there is no such formula, for either");
        for (int none : new int[] {-1, 17, Integer.MIN_VALUE, Integer.MAX_VALUE}) {
            is(INDEX, () -> join(house, isPar, none, 0));
            is(INDEX, () -> join(house, isPar, 0, none));
            is(INDEX, () -> join(house, isPar, none, none));
        }
        says("Throws IllegalArgumentException if it would have more than 12 atoms");
        is(17, () -> join(house, isPar, 6, 6));
        is(ARGUMENT, () -> join(house, isPar, 6, 7));
        is(ARGUMENT, () -> join(house, isPar, 7, 6));
        is(ARGUMENT, () -> join(house, isPar, 12, 0));
        is(12, () -> join(house, isPar, 11, 0));
        says("Throws IllegalStateException if there would be more than 60 formulas");
        Sidelessly full = Houses.withAtoms();
        Houses.fillFormulas(full, 59);
        is(59, () -> join(full, isPar, 0, 1));
        is(STATE, () -> join(full, isPar, 1, 0));
        is(59, () -> join(full, isPar, 0, 1));
    }

    private void dual() {
        promise(5);
        says("Tells the dual of a formula, its parts ahead of it, first ones first.");
        Sidelessly house = new Sidelessly();
        int whole = Houses.told(house, "((a*b)|c)");
        is(9, () -> house.dual(whole));
        is("A B | C *", () -> house.kind(5) + " " + house.kind(6) + " " + house.kind(7) + " " + house.kind(8) + " "
                + house.kind(9));
        is("5 6 7 8", () -> house.part(7, false) + " " + house.part(7, true) + " " + house.part(9, false) + " "
                + house.part(9, true));
        Sidelessly later = new Sidelessly();
        int known = Houses.told(later, "(c|(B*B))");
        is(4, () -> later.atom('b', false));
        is(7, () -> later.dual(known));
        is("C | *", () -> later.kind(5) + " " + later.kind(6) + " " + later.kind(7));
        is("4 4 5 6", () -> later.part(6, false) + " " + later.part(6, true) + " " + later.part(7, false) + " "
                + later.part(7, true));
        says("formula: the formula");
        is(4, () -> later.dual(1));
        is(5, () -> later.dual(0));
        says("Returns its number.");
        is(4, () -> house.dual(9));
        is(9, () -> house.dual(4));
        is(0, () -> house.dual(5));
        says("Throws IndexOutOfBoundsException if there is no such formula");
        is(INDEX, () -> house.dual(-1));
        is(INDEX, () -> house.dual(10));
        is(INDEX, () -> new Sidelessly().dual(0));
        says("Throws IllegalStateException if there would be more than 60 formulas");
        Sidelessly enough = new Sidelessly();
        int last = Houses.told(enough, "((a*b)|c)");
        Houses.fillFormulas(enough, 55);
        is(59, () -> enough.dual(last));
        is(last, () -> enough.dual(59));
        Sidelessly little = new Sidelessly();
        Houses.told(little, "((a*b)|c)");
        Houses.fillFormulas(little, 56);
        is(STATE, () -> little.dual(last));
        is(INDEX, () -> little.kind(56));
        is(58, () -> little.dual(2));
    }

    private void kindAndPart() {
        Sidelessly house = new Sidelessly();
        int whole = Houses.told(house, "((a*B)|e)");
        promise(6);
        says("Returns what a formula is.");
        is('a', () -> house.kind(0));
        is('*', () -> house.kind(2));
        says("formula: the formula");
        is('e', () -> house.kind(3));
        says("Returns the letter of an atom, in capitals if it is turned, '*' for times, '|' for par.");
        is('B', () -> house.kind(1));
        is('|', () -> house.kind(whole));
        says("Throws IndexOutOfBoundsException if there is no such formula");
        is(INDEX, () -> house.kind(-1));
        is(INDEX, () -> house.kind(5));
        is(INDEX, () -> house.kind(Integer.MAX_VALUE));
        promise(7);
        says("Returns a part of a formula.");
        is(2, () -> house.part(whole, false));
        says("formula: the formula");
        is(0, () -> house.part(2, false));
        says("isSecond: whether the second part is asked");
        is(3, () -> house.part(whole, true));
        is(1, () -> house.part(2, true));
        says("Returns its number.");
        is('B', () -> house.kind(house.part(house.part(whole, false), true)));
        says("Throws IndexOutOfBoundsException if there is no such formula");
        is(INDEX, () -> house.part(-1, false));
        is(INDEX, () -> house.part(5, true));
        says("Throws NoSuchElementException if it is an atom");
        is(NO_SUCH, () -> house.part(0, false));
        is(NO_SUCH, () -> house.part(1, true));
    }

    /** The conclusions of a derivation, as numbers of formulas. */
    private static String conclusions(Sidelessly house, int derivation) {
        StringBuilder seen = new StringBuilder();
        for (int index = 0; index < house.conclusions(derivation); index++) {
            seen.append(index == 0 ? "" : " ").append(house.conclusion(derivation, index));
        }
        return seen.toString();
    }

    private void axiom() {
        promise(8);
        says("Derives an axiom.");
        Sidelessly house = new Sidelessly();
        is(0, () -> house.atom('b', false));
        is(0, () -> house.axiom(0));
        is("0 1", () -> conclusions(house, 0));
        says("formula: an atom, the first conclusion");
        is(1, () -> house.axiom(1));
        is("1 0", () -> conclusions(house, 1));
        says("Returns the number of the derivation.");
        is(2, () -> house.axiom(0));
        is(3, () -> house.joinPar(2, 0, 1));
        is(4, () -> house.axiom(0));
        says("Throws IndexOutOfBoundsException if there is no such formula");
        is(INDEX, () -> house.axiom(-1));
        is(INDEX, () -> house.axiom(3));
        says("Throws UnsupportedOperationException if it is no atom");
        is(UNSUPPORTED, () -> house.axiom(2));
        is(UNSUPPORTED, () -> house.axiom(house.times(0, 0)));
        says("Throws IllegalStateException if there are 24 derivations, or there would be more than 60 formulas");
        Houses.fillDerivations(house, 0, 24);
        is(STATE, () -> house.axiom(0));
        Sidelessly full = new Sidelessly();
        int last = full.atom('a', false);
        int turned = full.atom('b', true);
        full.atom('b', false);
        Houses.fillFormulas(full, 60);
        is(STATE, () -> full.axiom(last));
        is(0, () -> full.axiom(turned));
    }

    /** Formulas a, A, b, B, a*b; the derivation 2 has the conclusions A, B, a*b; 3 is an axiom of a. */
    private static Sidelessly withThreeConclusions() {
        Sidelessly house = new Sidelessly();
        house.axiom(house.atom('a', false));
        house.axiom(house.atom('b', false));
        house.joinTimes(0, 0, 1, 0);
        house.axiom(0);
        return house;
    }

    private void joinPar() {
        promise(9);
        says("Joins two conclusions by par.");
        Sidelessly house = withThreeConclusions();
        is(4, () -> house.joinPar(2, 2, 0));
        is("3 5", () -> conclusions(house, 4));
        is("| 4 1", () -> house.kind(5) + " " + house.part(5, false) + " " + house.part(5, true));
        says("derivation: the derivation");
        is(5, () -> house.joinPar(3, 0, 1));
        is("6", () -> conclusions(house, 5));
        is(1, () -> house.take(5));
        says("one: the index of a conclusion, from 0, the first part");
        Sidelessly turned = withThreeConclusions();
        is(4, () -> turned.joinPar(2, 0, 2));
        is("1 4", () -> turned.part(5, false) + " " + turned.part(5, true));
        says("other: that of another one");
        is(5, () -> turned.joinPar(4, 1, 0));
        is("5 3", () -> turned.part(6, false) + " " + turned.part(6, true));
        says("Returns the number of the new derivation.");
        is(6, () -> turned.joinPar(3, 1, 0));
        is("7", () -> conclusions(turned, 6));
        says("Throws IndexOutOfBoundsException if there is no such derivation, or conclusion, for either");
        is(INDEX, () -> withThreeConclusions().joinPar(4, 0, 1));
        is(INDEX, () -> withThreeConclusions().joinPar(-1, 0, 1));
        is(INDEX, () -> withThreeConclusions().joinPar(2, 3, 1));
        is(INDEX, () -> withThreeConclusions().joinPar(2, 0, 3));
        is(INDEX, () -> withThreeConclusions().joinPar(2, -1, 0));
        is(INDEX, () -> withThreeConclusions().joinPar(2, 0, -1));
        is(INDEX, () -> withThreeConclusions().joinPar(3, 0, 2));
        says("Throws IllegalArgumentException if both are the same, or the formula would have more than 12 atoms");
        is(ARGUMENT, () -> withThreeConclusions().joinPar(2, 1, 1));
        is(ARGUMENT, () -> Houses.withLargeConclusion().joinPar(19, 2, 0));
        is(ARGUMENT, () -> Houses.withLargeConclusion().joinPar(19, 1, 2));
        is(20, () -> Houses.withLargeConclusion().joinPar(19, 0, 1));
        says("Throws NoSuchElementException if it was used");
        is(NO_SUCH, () -> withThreeConclusions().joinPar(0, 0, 1));
        is(NO_SUCH, () -> turned.joinPar(3, 0, 1));
        noRoomFor(full -> full.joinPar(0, 0, 1), full -> full.joinPar(0, 1, 0));
    }

    /** The call of a house with axioms needs a new formula and a new derivation; another one needs the same. */
    private void noRoomFor(Check.HouseCall call, Check.HouseCall other) {
        says("Throws IllegalStateException if there are 24 derivations, or there would be more than 60 formulas");
        is(23, () -> call.make(Houses.withAxioms(23)));
        is(STATE, () -> call.make(Houses.withAxioms(24)));
        Sidelessly almost = Houses.withAxioms(4);
        Houses.fillFormulas(almost, 59);
        is(4, () -> call.make(almost));
        Sidelessly full = Houses.withAxioms(4);
        Houses.fillFormulas(full, 60);
        is(STATE, () -> call.make(full));
        is(STATE, () -> other.make(full));
    }

    private void joinTimes() {
        promise(10);
        says("Joins two derivations by times.");
        Sidelessly house = withThreeConclusions();
        is(4, () -> house.joinTimes(2, 1, 3, 0));
        is("1 4 1 5", () -> conclusions(house, 4));
        is("* 3 0", () -> house.kind(5) + " " + house.part(5, false) + " " + house.part(5, true));
        is(3, () -> house.take(4));
        says("derivation: the derivation");
        Sidelessly turned = withThreeConclusions();
        is(4, () -> turned.joinTimes(3, 0, 2, 1));
        is("1 1 4 5", () -> conclusions(turned, 4));
        says("one: the index of a conclusion of it");
        is("* 0 3", () -> turned.kind(5) + " " + turned.part(5, false) + " " + turned.part(5, true));
        says("second: another derivation");
        is(5, () -> turned.axiom(2));
        is(6, () -> turned.joinTimes(5, 1, 4, 3));
        is("2 1 1 4 6", () -> conclusions(turned, 6));
        says("other: the index of a conclusion of that");
        is("3 5", () -> turned.part(6, false) + " " + turned.part(6, true));
        says("Returns the number of the new derivation.");
        is(9, () -> turned.joinTimes(turned.axiom(0), 1, turned.axiom(2), 1));
        says("Throws IndexOutOfBoundsException if there is no such derivation, or conclusion, for either");
        is(INDEX, () -> withThreeConclusions().joinTimes(4, 0, 3, 0));
        is(INDEX, () -> withThreeConclusions().joinTimes(2, 0, 4, 0));
        is(INDEX, () -> withThreeConclusions().joinTimes(-1, 0, 3, 0));
        is(INDEX, () -> withThreeConclusions().joinTimes(2, 0, -1, 0));
        is(INDEX, () -> withThreeConclusions().joinTimes(2, 3, 3, 0));
        is(INDEX, () -> withThreeConclusions().joinTimes(2, 0, 3, 2));
        is(INDEX, () -> withThreeConclusions().joinTimes(2, -1, 3, 0));
        is(INDEX, () -> withThreeConclusions().joinTimes(2, 0, 3, -1));
        says("Throws IllegalArgumentException if both are the same, or the formula would have more than 12 atoms");
        is(ARGUMENT, () -> withThreeConclusions().joinTimes(2, 0, 2, 1));
        is(ARGUMENT, () -> withThreeConclusions().joinTimes(3, 0, 3, 0));
        is(ARGUMENT, () -> Houses.withLargeConclusion().joinTimes(19, 2, 0, 0));
        is(ARGUMENT, () -> Houses.withLargeConclusion().joinTimes(0, 0, 19, 2));
        is(20, () -> Houses.withLargeConclusion().joinTimes(19, 1, 0, 0));
        says("Throws NoSuchElementException if one was used");
        is(NO_SUCH, () -> withThreeConclusions().joinTimes(0, 0, 3, 0));
        is(NO_SUCH, () -> withThreeConclusions().joinTimes(3, 0, 1, 0));
        noRoomFor(full -> full.joinTimes(0, 0, 1, 0), full -> full.joinTimes(1, 1, 0, 0));
    }

    private void joinCut() {
        promise(11);
        says("Joins two derivations by a cut.");
        Sidelessly house = withThreeConclusions();
        is(4, () -> house.joinCut(2, 0, 3, 0));
        is("3 4 1", () -> conclusions(house, 4));
        is("3 1", () -> house.take(4) + " " + house.cuts());
        says("derivation: the derivation");
        Sidelessly turned = withThreeConclusions();
        is(4, () -> turned.joinCut(3, 0, 2, 0));
        is("1 3 4", () -> conclusions(turned, 4));
        says("one: the index of a conclusion of it");
        is(3, () -> turned.take(4));
        is(0, () -> turned.rootAt(3));
        says("second: another derivation");
        is(1, () -> turned.rootAt(4));
        says("other: the index of a conclusion of that");
        is(5, () -> turned.axiom(2));
        is(6, () -> turned.joinCut(4, 1, 5, 0));
        is("1 4 3", () -> conclusions(turned, 6));
        says("Returns the number of the new derivation.");
        is(8, () -> turned.joinCut(turned.axiom(0), 0, 6, 0));
        is("1 4 3", () -> conclusions(turned, 8));
        says("Throws IndexOutOfBoundsException if there is no such derivation, or conclusion, for either");
        is(INDEX, () -> withThreeConclusions().joinCut(4, 0, 3, 0));
        is(INDEX, () -> withThreeConclusions().joinCut(2, 0, 4, 0));
        is(INDEX, () -> withThreeConclusions().joinCut(-1, 0, 3, 0));
        is(INDEX, () -> withThreeConclusions().joinCut(2, 3, 3, 0));
        is(INDEX, () -> withThreeConclusions().joinCut(2, 0, 3, 2));
        is(INDEX, () -> withThreeConclusions().joinCut(2, 0, 3, -1));
        says("Throws IllegalArgumentException if both are the same");
        is(ARGUMENT, () -> withThreeConclusions().joinCut(3, 0, 3, 1));
        is(ARGUMENT, () -> withThreeConclusions().joinCut(0, 0, 0, 1));
        says("Throws NoSuchElementException if one was used");
        is(NO_SUCH, () -> withThreeConclusions().joinCut(0, 0, 3, 1));
        is(NO_SUCH, () -> withThreeConclusions().joinCut(3, 0, 0, 1));
        says("Throws UnsupportedOperationException if both conclusions are not dual");
        is(UNSUPPORTED, () -> withThreeConclusions().joinCut(2, 1, 3, 0));
        is(UNSUPPORTED, () -> withThreeConclusions().joinCut(2, 0, 3, 1));
        is(UNSUPPORTED, () -> withThreeConclusions().joinCut(2, 2, 3, 1));
        says("Throws IllegalStateException if there are 24 derivations");
        is(23, () -> Houses.withAxioms(23).joinCut(0, 0, 1, 1));
        is(STATE, () -> Houses.withAxioms(24).joinCut(0, 0, 1, 1));
        Sidelessly full = Houses.withAxioms(4);
        Houses.fillFormulas(full, 60);
        is(4, () -> full.joinCut(0, 0, 1, 1));
    }

    private void conclusions() {
        Sidelessly house = withThreeConclusions();
        promise(12);
        says("Returns how many conclusions a derivation has.");
        is(3, () -> house.conclusions(2));
        says("derivation: the derivation");
        is(2, () -> house.conclusions(3));
        is(2, () -> house.conclusions(0));
        says("Returns how many.");
        is(1, () -> house.conclusions(house.joinPar(3, 0, 1)));
        is(2, () -> house.conclusions(house.joinPar(2, 1, 0)));
        says("Throws IndexOutOfBoundsException if there is no such derivation");
        is(INDEX, () -> house.conclusions(-1));
        is(INDEX, () -> house.conclusions(6));
        is(INDEX, () -> new Sidelessly().conclusions(0));
        promise(13);
        says("Returns a conclusion of a derivation.");
        is(1, () -> house.conclusion(2, 0));
        says("derivation: the derivation");
        is(0, () -> house.conclusion(3, 0));
        says("index: the index, from 0");
        is("3 4", () -> house.conclusion(2, 1) + " " + house.conclusion(2, 2));
        says("Returns the formula.");
        is("* |", () -> house.kind(house.conclusion(5, 0)) + " " + house.kind(house.conclusion(5, 1)));
        says("Throws IndexOutOfBoundsException if there is no such derivation");
        is(INDEX, () -> house.conclusion(-1, 0));
        is(INDEX, () -> house.conclusion(6, 0));
        is(INDEX, () -> house.conclusion(6, -1));
        says("Throws NoSuchElementException if there is none");
        is(NO_SUCH, () -> house.conclusion(2, 3));
        is(NO_SUCH, () -> house.conclusion(2, -1));
        is(NO_SUCH, () -> house.conclusion(4, 1));
        is(NO_SUCH, () -> withCuts().conclusion(22, 2));
    }

    /** Twelve axioms of a that are joined by eleven cuts to the derivation 22, with the conclusions a and A. */
    private static Sidelessly withCuts() {
        Sidelessly house = Houses.withAxioms(12);
        int joined = 0;
        for (int next = 1; next < 12; next++) {
            joined = house.joinCut(joined, 1, next, 0);
        }
        return house;
    }

    private void take() {
        promise(14);
        says("Takes a derivation to the bench, used or not, which uses it not.");
        Sidelessly house = withThreeConclusions();
        is(2, () -> house.take(2));
        is("1 3 4", () -> house.rootAt(0) + " " + house.rootAt(1) + " " + house.rootAt(2));
        is(1, () -> house.take(0));
        is("2 0 1", () -> house.roots() + " " + house.rootAt(0) + " " + house.rootAt(1));
        is(4, () -> house.joinPar(2, 0, 1));
        is(NO_SUCH, () -> house.joinPar(0, 0, 1));
        says("derivation: the derivation");
        is(2, () -> house.take(4));
        is("2 4 5", () -> house.roots() + " " + house.rootAt(0) + " " + house.rootAt(1));
        says("Returns how many links there are.");
        is(1, () -> house.take(3));
        is(12, () -> withCuts().take(22));
        says("Throws IndexOutOfBoundsException if there is no such derivation");
        is(INDEX, () -> house.take(-1));
        is(INDEX, () -> house.take(5));
        is(2, house::roots);
        says("Throws UnsupportedOperationException if it has more than 24 leaves");
        Sidelessly most = withCuts();
        is("12 24 11", () -> most.take(22) + " " + most.roots() + " " + most.cuts());
        is(24, most::clear);
    }

    private void place() {
        promise(15);
        says("Lays a formula on the bench.");
        Sidelessly house = Houses.withChain(false, 12);
        is(0, () -> house.place(2));
        is("1 2", () -> house.roots() + " " + house.rootAt(0));
        says("formula: the formula");
        is(1, () -> house.place(1));
        is(1, () -> house.rootAt(1));
        says("Returns the number of the root.");
        is(2, () -> house.place(2));
        says("Throws IndexOutOfBoundsException if there is no such formula");
        is(INDEX, () -> house.place(-1));
        is(INDEX, () -> house.place(13));
        says("Throws IllegalStateException if more than 24 leaves would have come");
        is(3, () -> house.place(7));
        is(4, () -> house.place(0));
        is(STATE, () -> house.place(12));
        is(5, () -> house.place(11));
        is(STATE, () -> house.place(0));
        is(24, house::clear);
        is(0, () -> house.place(12));
    }

    private static Sidelessly net(String roots, int... links) {
        return Houses.net(roots, links);
    }

    /** Roots and leaves 0 (a) and 3 (A) that are linked; those with the numbers 1 and 2 are gone. */
    private static Sidelessly withGone() {
        Sidelessly house = net("a A a A", 0, 1, 2, 3);
        house.cut(1, 2);
        house.step(0);
        return house;
    }

    private void link() {
        promise(16);
        says("Links two leaves.");
        Sidelessly house = net("(a*B) A a b (A|A)");
        is(1, () -> house.link(0, 2));
        is("2 0", () -> house.linked(0) + " " + house.linked(2));
        says("one: a leaf");
        is(2, () -> house.link(4, 1));
        is("1 4", () -> house.linked(4) + " " + house.linked(1));
        says("other: another one");
        is(3, () -> house.link(3, 6));
        is("6 3", () -> house.linked(3) + " " + house.linked(6));
        says("Returns how many links there are.");
        is(3, () -> house.unlink(6));
        is(3, () -> house.link(3, 5));
        Sidelessly gone = withGone();
        is(0, () -> gone.unlink(3));
        is(1, () -> gone.link(0, 3));
        says("Throws IndexOutOfBoundsException if there is no such leaf any more, for either");
        for (int none : new int[] {-1, 1, 2, 4, 24, Integer.MIN_VALUE, Integer.MAX_VALUE}) {
            is(INDEX, () -> gone.link(none, 0));
            is(INDEX, () -> gone.link(0, none));
            is(INDEX, () -> gone.link(none, none));
        }
        says("Throws UnsupportedOperationException if they are not dual, or one is linked");
        Sidelessly free = net("a A b B A");
        is(UNSUPPORTED, () -> free.link(0, 0));
        is(UNSUPPORTED, () -> free.link(0, 2));
        is(UNSUPPORTED, () -> free.link(0, 3));
        is(UNSUPPORTED, () -> free.link(1, 4));
        is(1, () -> free.link(0, 1));
        is(UNSUPPORTED, () -> free.link(0, 4));
        is(UNSUPPORTED, () -> free.link(4, 0));
        is(UNSUPPORTED, () -> free.link(0, 1));
        is(NO_SUCH, () -> free.linked(4));
    }

    private void unlink() {
        promise(17);
        says("Takes a link away.");
        Sidelessly house = net("a A b B", 0, 1, 2, 3);
        is(3, () -> house.unlink(2));
        is(NO_SUCH, () -> house.linked(2));
        is(NO_SUCH, () -> house.linked(3));
        is("1 0", () -> house.linked(0) + " " + house.linked(1));
        says("leaf: the leaf");
        is(2, () -> house.link(3, 2));
        is(0, () -> house.unlink(1));
        is(NO_SUCH, () -> house.linked(0));
        says("Returns the other leaf.");
        is(3, () -> withGone().unlink(0));
        is(0, () -> withGone().unlink(3));
        says("Throws IndexOutOfBoundsException if there is no such leaf any more");
        for (int none : new int[] {-1, 1, 2, 4}) {
            is(INDEX, () -> withGone().unlink(none));
        }
        says("Throws NoSuchElementException if it is not linked");
        is(NO_SUCH, () -> house.unlink(0));
        is(NO_SUCH, () -> net("a A").unlink(1));
    }

    private void cut() {
        promise(18);
        says("Cuts two roots.");
        Sidelessly house = net("(a*b) a (A|B) A a", 0, 3, 1, 4, 2, 5);
        is(1, () -> house.cut(2, 0));
        is(1, house::cuts);
        is(UNSUPPORTED, () -> house.walk(0));
        is("5 2", () -> house.walk(2) + " " + house.walk(5));
        says("one: a root");
        is('b', () -> house.step(0));
        is("A a B b", () -> house.kind(house.rootAt(5)) + " " + house.kind(house.rootAt(6)) + " "
                + house.kind(house.rootAt(7)) + " " + house.kind(house.rootAt(8)));
        says("other: another one");
        is(3, () -> house.cut(1, 3));
        is(UNSUPPORTED, () -> house.walk(2));
        is(UNSUPPORTED, () -> house.walk(5));
        says("Returns how many cuts there are.");
        is(3, house::cuts);
        is(1, () -> net("a A").cut(1, 0));
        says("Throws IndexOutOfBoundsException if there is no such root any more, for either");
        for (int none : new int[] {-1, 1, 2, 4, 48, Integer.MIN_VALUE, Integer.MAX_VALUE}) {
            is(INDEX, () -> withGone().cut(none, 0));
            is(INDEX, () -> withGone().cut(0, none));
            is(INDEX, () -> withGone().cut(none, none));
        }
        is(1, () -> withGone().cut(3, 0));
        says("Throws UnsupportedOperationException if they are not dual, or one is cut");
        is(UNSUPPORTED, () -> net("a A").cut(0, 0));
        is(UNSUPPORTED, () -> net("(a*b) (A*B)").cut(0, 1));
        is(UNSUPPORTED, () -> net("(a*b) (B|A)").cut(0, 1));
        is(UNSUPPORTED, () -> house.cut(1, 3));
        is(UNSUPPORTED, () -> house.cut(3, 4));
        is(UNSUPPORTED, () -> house.cut(4, 3));
        is(3, house::cuts);
    }

    private void clear() {
        promise(19);
        says("Clears the bench.");
        Sidelessly house = net("a A a A", 0, 1, 2, 3);
        is(1, () -> house.cut(1, 2));
        is(4, house::clear);
        is("0 0", () -> house.roots() + " " + house.cuts());
        is(INDEX, () -> house.rootAt(0));
        is(INDEX, () -> house.linked(0));
        is(0, () -> house.place(1));
        is(NO_SUCH, () -> house.linked(0));
        is(1, () -> house.place(0));
        is(1, () -> house.cut(1, 0));
        says("Returns how many leaves had come.");
        is(2, house::clear);
        is(0, house::clear);
        is(4, () -> withGone().clear());
        is(24, () -> Houses.full().clear());
    }

    private void roots() {
        promise(20);
        says("Returns how many roots there are.");
        is(0, () -> new Sidelessly().roots());
        is(3, () -> net("a (a*b) a").roots());
        is(2, () -> withGone().roots());
        says("Returns how many, those that are cut too.");
        Sidelessly house = net("(a*b) (A|B) a");
        is(1, () -> house.cut(0, 1));
        is(3, house::roots);
        is('b', () -> house.step(0));
        is(5, house::roots);
        promise(21);
        says("Returns the formula of a root.");
        Sidelessly few = net("a (a*b) b");
        is("0 2 1", () -> few.rootAt(0) + " " + few.rootAt(1) + " " + few.rootAt(2));
        says("root: the root");
        is("a A b B", () -> house.kind(house.rootAt(3)) + " " + house.kind(house.rootAt(4)) + " "
                + house.kind(house.rootAt(5)) + " " + house.kind(house.rootAt(6)));
        says("Returns the formula.");
        is(0, () -> house.rootAt(2));
        is("0 1", () -> withGone().rootAt(0) + " " + withGone().rootAt(3));
        says("Throws IndexOutOfBoundsException if there is no such root any more");
        for (int none : new int[] {-1, 1, 2, 4, 48, Integer.MIN_VALUE, Integer.MAX_VALUE}) {
            is(INDEX, () -> withGone().rootAt(none));
        }
        is(INDEX, () -> house.rootAt(0));
        is(INDEX, () -> house.rootAt(1));
        is(INDEX, () -> house.rootAt(7));
    }

    private void linked() {
        promise(22);
        says("Returns the linked leaf of a leaf.");
        Sidelessly house = net("(a*b) A B c", 0, 2, 1, 3);
        is("2 3", () -> house.linked(0) + " " + house.linked(1));
        says("leaf: the leaf");
        is("0 1", () -> house.linked(2) + " " + house.linked(3));
        says("Returns the leaf.");
        is("3 0", () -> withGone().linked(0) + " " + withGone().linked(3));
        says("Throws IndexOutOfBoundsException if there is no such leaf any more");
        for (int none : new int[] {-1, 1, 2, 4, 24, Integer.MIN_VALUE, Integer.MAX_VALUE}) {
            is(INDEX, () -> withGone().linked(none));
        }
        says("Throws NoSuchElementException if it is not linked");
        is(NO_SUCH, () -> house.linked(4));
        is(3, () -> house.unlink(1));
        is(NO_SUCH, () -> house.linked(1));
        is(NO_SUCH, () -> house.linked(3));
    }
}
