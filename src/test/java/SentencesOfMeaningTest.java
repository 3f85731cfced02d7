/** Each sentence of the promises 34 to 47, in the order of the document: meanings, monoids, the search and sums. */
public final class SentencesOfMeaningTest {
    private static final String INDEX = Sentences.INDEX;
    private static final String ARGUMENT = Sentences.ARGUMENT;
    private static final String UNSUPPORTED = Sentences.UNSUPPORTED;
    private static final String NO_SUCH = Sentences.NO_SUCH;
    private static final String ARITHMETIC = Sentences.ARITHMETIC;
    private static final char[] NO_LETTERS = {'`', 'f', 'A', 'E', '*', 0, 'a' + 256, 65535};

    private final Sentences document = new Sentences("SentencesOfMeaningTest");

    public static void main(String[] args) {
        SentencesOfMeaningTest test = new SentencesOfMeaningTest();
        test.points();
        test.near();
        test.meaning();
        test.isClique();
        test.monoid();
        test.set();
        test.value();
        test.counter();
        test.counterOfMoreLetters();
        test.proofs();
        test.proof();
        test.linkShare();
        test.meanAtoms();
        test.checksum();
        test.isTrue();
        test.document.close(name -> name.matches("Promise (3[4-9]|4[0-7])"));
    }

    private void promise(int number) {
        document.in("Promise " + number);
    }

    private void says(String words) {
        document.says(words);
    }

    private void is(Object due, Check.Call call) {
        document.is(due, call);
    }

    private static Sidelessly net(String roots, int... links) {
        return Houses.net(roots, links);
    }

    private static Sidelessly cutting(Sidelessly house, int... roots) {
        return Houses.cutting(house, roots);
    }

    /** So many roots a, and so many A, linked one by one. */
    private static Sidelessly withAxioms(int many) {
        Sidelessly house = net("a A");
        house.clear();
        for (int next = 0; next < many; next++) {
            house.place(0);
            house.place(1);
            house.link(2 * next, 2 * next + 1);
        }
        return house;
    }

    /** A proof: a times of so many atoms, each one linked with a root A; the rows are more than 243 from 8 on. */
    private static Sidelessly withStar(int atoms) {
        Sidelessly house = Houses.withChain(false, atoms);
        house.place(atoms);
        for (int leaf = 0; leaf < atoms; leaf++) {
            house.place(1);
            house.link(leaf, atoms + leaf);
        }
        return house;
    }

    private static Sidelessly withPoints(Sidelessly house, char letter, int many) {
        house.points(letter, many);
        return house;
    }

    private void points() {
        promise(34);
        says("Tells how many points a letter has; all of them are far then.");
        Sidelessly house = net("a A b B", 0, 1, 2, 3);
        is(4, house::meaning);
        is(2, () -> house.points('b', 3));
        is(6, house::meaning);
        is("false false false", () -> house.near('b', 0, 1, true) + " " + house.near('b', 0, 2, true) + " "
                + house.near('b', 1, 2, true));
        is(false, () -> house.near('a', 0, 1, true));
        is(3, () -> house.points('b', 3));
        is("false false false", () -> house.near('b', 0, 1, false) + " " + house.near('b', 0, 2, false) + " "
                + house.near('b', 1, 2, false));
        is(true, () -> house.near('a', 0, 1, true));
        says("letter: 'a' to 'e'");
        is("2 2", () -> house.points('a', 1) + " " + house.points('e', 1));
        says("many: 1 to 3");
        is(3, house::meaning);
        is("1 3", () -> house.points('a', 3) + " " + house.points('a', 1));
        says("Returns how many it had.");
        is("1 2 3 3", () -> house.points('a', 2) + " " + house.points('a', 3) + " " + house.points('b', 1) + " "
                + house.points('a', 3));
        says("Throws IllegalArgumentException if there is no such letter, or the number is out of range");
        for (char letter : NO_LETTERS) {
            is(ARGUMENT, () -> house.points(letter, 2));
        }
        for (int many : new int[] {0, 4, -1, Integer.MIN_VALUE, Integer.MAX_VALUE}) {
            is(ARGUMENT, () -> house.points('a', many));
        }
        is(3, house::meaning);
    }

    private void near() {
        promise(35);
        says("Tells whether two points are near.");
        Sidelessly house = net("(a*b) (A*B)", 0, 2, 1, 3);
        is(true, house::isClique);
        is(false, () -> house.near('a', 0, 1, true));
        is(false, house::isClique);
        says("letter: 'a' to 'e'");
        is(false, () -> house.near('b', 0, 1, true));
        is(true, house::isClique);
        is(false, () -> house.near('e', 0, 1, true));
        says("one: a point, from 0");
        is(2, () -> house.points('c', 3));
        is(false, () -> house.near('c', 0, 2, true));
        is(false, () -> house.near('c', 1, 2, true));
        says("other: another one");
        is(true, () -> house.near('c', 2, 0, true));
        is(true, () -> house.near('c', 2, 1, true));
        is(false, () -> house.near('c', 1, 0, true));
        says("is: whether they are near then");
        is(true, () -> house.near('c', 0, 1, false));
        is(false, () -> house.near('c', 0, 1, false));
        is(false, () -> house.near('c', 0, 1, true));
        is(true, () -> house.near('c', 0, 1, true));
        says("Returns whether they were.");
        is("true true", () -> house.near('c', 0, 2, false) + " " + house.near('c', 1, 2, true));
        is("false true", () -> house.near('c', 2, 0, true) + " " + house.near('c', 2, 1, true));
        says("Throws IllegalArgumentException if there is no such letter, or point, or both are the same");
        for (char letter : NO_LETTERS) {
            is(ARGUMENT, () -> house.near(letter, 0, 1, true));
        }
        for (int none : new int[] {2, 3, -1, Integer.MIN_VALUE, Integer.MAX_VALUE}) {
            is(ARGUMENT, () -> house.near('a', none, 0, true));
            is(ARGUMENT, () -> house.near('a', 0, none, true));
        }
        is(ARGUMENT, () -> house.near('a', 0, 0, true));
        is(ARGUMENT, () -> house.near('c', 2, 2, false));
        is(ARGUMENT, () -> house.near('c', 0, 3, false));
        is(2, () -> house.points('a', 1));
        is(ARGUMENT, () -> house.near('a', 0, 1, true));
    }

    private void meaning() {
        promise(36);
        says("Returns how many rows the meaning has.");
        is(4, () -> net("(a*b) (A|B)", 0, 2, 1, 3).meaning());
        is(2, () -> cutting(net("a A a A", 0, 1, 2, 3), 1, 2).meaning());
        says("Returns how many.");
        is(1, () -> new Sidelessly().meaning());
        is(1, () -> withPoints(withAxioms(12), 'a', 1).meaning());
        is(4096, () -> withAxioms(12).meaning());
        is(531441, () -> withPoints(withAxioms(12), 'a', 3).meaning());
        says("Throws UnsupportedOperationException if a token comes to a leaf that is not linked");
        is(UNSUPPORTED, () -> net("a").meaning());
        is(UNSUPPORTED, () -> net("a A (b|c) B", 0, 1, 2, 4).meaning());
        is(UNSUPPORTED, () -> cutting(net("a A a A", 0, 1), 1, 2).meaning());
        is(2, () -> cutting(net("a A b B", 0, 1), 2, 3).meaning());
        is(1, () -> cutting(net("a A"), 0, 1).meaning());
    }

    private void isClique() {
        promise(37);
        says("Tells whether the meaning is a clique.");
        is(true, () -> net("(a*b) (A|B)", 0, 2, 1, 3).isClique());
        is(false, () -> net("((a*A)|b) B", 0, 1, 2, 3).isClique());
        says("Returns whether it is.");
        is(true, () -> net("(a|A)", 0, 1).isClique());
        is(false, () -> net("(a*A)", 0, 1).isClique());
        says("Throws UnsupportedOperationException if a token comes to a leaf that is not linked, or there are more "
                + "than 243 rows");
        is(UNSUPPORTED, () -> net("a").isClique());
        is(UNSUPPORTED, () -> cutting(net("a A a A", 0, 1), 1, 2).isClique());
        is(true, () -> cutting(net("a A b B", 0, 1), 2, 3).isClique());
        is(true, () -> withPoints(withAxioms(5), 'a', 3).isClique());
        is(UNSUPPORTED, () -> withPoints(withAxioms(6), 'a', 3).isClique());
        is(true, () -> withAxioms(7).isClique());
        is(UNSUPPORTED, () -> withAxioms(8).isClique());
        is(true, () -> withPoints(withAxioms(12), 'a', 1).isClique());
        is(UNSUPPORTED, () -> withPoints(net("a A a A a A a A a A b B", 0, 1, 2, 3, 4, 5, 6, 7, 8, 9, 10, 11), 'a', 3)
                .isClique());
    }

    private void monoid() {
        promise(38);
        says("Tells a monoid; the sets of letters are none then.");
        Sidelessly house = new Sidelessly();
        is(0, () -> house.atom('a', false));
        is(1, () -> house.monoid(3, 1));
        is(0, () -> house.set('a', 2));
        is(0, () -> house.set('e', 5));
        is(2, () -> house.value(0));
        is(3, () -> house.monoid(3, 1));
        is(0, () -> house.set('e', 0));
        is(0, () -> house.set('a', 0));
        is(0, () -> house.value(0));
        is(7, () -> house.value(house.dual(0)));
        says("size: the size");
        is(3, () -> house.monoid(2, 2));
        is(3, () -> house.value(1));
        is(ARGUMENT, () -> house.set('a', 4));
        says("pole: the pole, as bits");
        is(0, () -> house.set('a', 1));
        is(2, () -> house.value(1));
        is(2, () -> house.monoid(2, 1));
        is(0, () -> house.set('a', 1));
        is(1, () -> house.value(1));
        says("Returns the size before.");
        is("2 1 3 3 2", () -> house.monoid(1, 0) + " " + house.monoid(3, 7) + " " + house.monoid(3, 0) + " "
                + house.monoid(2, 3) + " " + house.monoid(2, 0));
        says("Throws IllegalArgumentException if the size is out of range, or the pole is none of it");
        for (int size : new int[] {0, 4, -1, 32, Integer.MIN_VALUE, Integer.MAX_VALUE}) {
            is(ARGUMENT, () -> house.monoid(size, 0));
        }
        is(ARGUMENT, () -> house.monoid(1, 2));
        is(ARGUMENT, () -> house.monoid(2, 4));
        is(ARGUMENT, () -> house.monoid(3, 8));
        is(ARGUMENT, () -> house.monoid(3, -1));
        is(ARGUMENT, () -> house.monoid(1, Integer.MIN_VALUE));
        is("2 1", () -> house.monoid(1, 1) + " " + house.monoid(1, 0));
    }

    private void set() {
        promise(39);
        says("Tells the set of a letter.");
        Sidelessly house = Houses.withAtoms();
        house.monoid(3, 1);
        is(0, () -> house.set('b', 2));
        is("0 2", () -> house.value(0) + " " + house.value(2));
        says("letter: 'a' to 'e'");
        is(0, () -> house.set('a', 1));
        is(0, () -> house.set('e', 4));
        is("1 4", () -> house.value(0) + " " + house.value(8));
        says("numbers: the numbers, as bits");
        is(2, () -> house.set('b', 7));
        is(7, () -> house.value(2));
        is(4, () -> house.set('e', 0));
        is(0, () -> house.value(8));
        says("Returns the set before.");
        is("1 6 3", () -> house.set('a', 6) + " " + house.set('a', 3) + " " + house.set('a', 3));
        is("7 0", () -> house.set('b', 0) + " " + house.set('e', 0));
        says("Throws IllegalArgumentException if there is no such letter, or a number is none of the monoid");
        for (char letter : NO_LETTERS) {
            is(ARGUMENT, () -> house.set(letter, 0));
        }
        is(ARGUMENT, () -> house.set('a', 8));
        is(ARGUMENT, () -> house.set('a', -1));
        is(ARGUMENT, () -> house.set('a', Integer.MIN_VALUE));
        is(3, () -> house.set('a', 7));
        house.monoid(2, 1);
        is(ARGUMENT, () -> house.set('a', 4));
        is(0, () -> house.set('a', 3));
        house.monoid(1, 1);
        is(ARGUMENT, () -> house.set('a', 2));
        is(0, () -> house.set('a', 1));
    }

    private void value() {
        promise(40);
        says("Returns the value of a formula.");
        Sidelessly house = new Sidelessly();
        int whole = Houses.told(house, "((a*b)|(A|a))");
        house.monoid(3, 1);
        house.set('a', 2);
        house.set('b', 4);
        is("2 4", () -> house.value(0) + " " + house.value(1));
        is(1, () -> house.value(2));
        says("formula: the formula");
        is(4, () -> house.value(3));
        is("1 1", () -> house.value(4) + " " + house.value(whole));
        says("Returns the numbers, as bits.");
        is(2, () -> house.set('a', 3));
        is("7 0", () -> house.value(0) + " " + house.value(3));
        says("Throws IndexOutOfBoundsException if there is no such formula");
        is(INDEX, () -> house.value(-1));
        is(INDEX, () -> house.value(6));
        is(INDEX, () -> new Sidelessly().value(0));
        is(INDEX, () -> house.value(Integer.MAX_VALUE));
    }

    /** What is told behind a counter; with the set of 0 alone for e the value of e turned is the pole. */
    private static String countered(String formula) {
        Sidelessly house = new Sidelessly();
        int told = Houses.told(house, formula);
        house.monoid(3, 5);
        for (char letter = 'a'; letter <= 'e'; letter++) {
            house.set(letter, 7);
        }
        StringBuilder seen = new StringBuilder();
        seen.append(house.counter(told)).append(" holds ").append(house.value(told) & 1).append(" sets");
        for (char letter = 'a'; letter <= 'e'; letter++) {
            seen.append(' ').append(house.set(letter, 1));
        }
        seen.append(" pole ").append(house.value(house.atom('e', true)));
        return seen.append(" size ").append(house.monoid(1, 0)).toString();
    }

    private void counter() {
        promise(41);
        says("Searches a monoid in which a formula does not hold, and tells it: the least size, then the least pole, "
                + "then the least set of 'a' as a number, then of 'b' and so on, letters that the formula has not "
                + "having none.");
        is("1 holds 0 sets 0 0 0 0 0 pole 0 size 1", () -> countered("b"));
        is("1 holds 0 sets 0 1 0 0 0 pole 0 size 1", () -> countered("B"));
        is("1 holds 0 sets 0 1 0 0 0 pole 0 size 1", () -> countered("(c|B)"));
        is("1 holds 0 sets 0 1 0 1 0 pole 0 size 1", () -> countered("(D|B)"));
        is("1 holds 0 sets 0 1 0 0 0 pole 0 size 1", () -> countered("((a*b)|(A*B))"));
        is("2 holds 0 sets 0 0 1 0 0 pole 1 size 2", () -> countered("((a|b)|(c|C))"));
        is("2 holds 0 sets 0 0 1 0 0 pole 2 size 2", () -> countered("((c*c)|(C*C))"));
        is("3 holds 0 sets 1 0 0 0 0 pole 2 size 3", () -> countered("((a*(a*a))|(A*(A*A)))"));
        is("2 holds 0 sets 1 0 0 0 0 pole 2 size 2", () -> countered("((a*a)|(A*A))"));
        says("formula: the formula");
        Sidelessly house = new Sidelessly();
        int whole = Houses.told(house, "((a|A)|(b*B))");
        is(1, () -> house.counter(0));
        is(1, () -> house.counter(1));
        says("Returns the size.");
        is(2, () -> net("((a*a)|(A*A))").counter(4));
        is(3, () -> net("(A|(a*(a*a)))").counter(4));
        says("Throws IndexOutOfBoundsException if there is no such formula");
        is(INDEX, () -> house.counter(-1));
        is(INDEX, () -> house.counter(whole + 1));
        is(INDEX, () -> new Sidelessly().counter(0));
    }

    private void counterOfMoreLetters() {
        says("Throws UnsupportedOperationException if it has more than 3 letters");
        is(2, () -> net("((a|b)|(c|C))").counter(6));
        is(UNSUPPORTED, () -> net("((a|b)|(c|d))").counter(6));
        is(UNSUPPORTED, () -> net("((a|B)|((C|C)|e))").counter(7));
        is(1, () -> net("(d*(e*c))").counter(4));
        says("Throws NoSuchElementException if there is none up to the size 3");
        is(NO_SUCH, () -> net("(a|A)").counter(2));
        is(NO_SUCH, () -> net("((a*b)|(A|B))").counter(6));
        is(NO_SUCH, () -> net("((a|A)*((b|B)*(e|E)))").counter(10));
    }

    private void proofs() {
        promise(42);
        says("Returns how many ways there are to link all leaves of the bench so that it is a proof.");
        is(2, () -> net("(a*a) (A|A)").proofs());
        is(1, () -> net("(a|A)").proofs());
        is(0, () -> net("(a*A)").proofs());
        is(0, () -> net("a A a A").proofs());
        is(0, () -> net("a A a").proofs());
        is(0, () -> net("a b").proofs());
        is(0, () -> new Sidelessly().proofs());
        is(1, () -> net("(a*b) A B").proofs());
        is(2, () -> net("(a*B) (b*a) (A|A)").proofs());
        says("Returns how many, whatever is linked now.");
        Sidelessly linked = net("(a*(a*a)) A A A", 1, 3, 0, 5);
        is(6, linked::proofs);
        is("5 3 1 0", () -> linked.linked(0) + " " + linked.linked(1) + " " + linked.linked(3) + " "
                + linked.linked(5));
        is(NO_SUCH, () -> linked.linked(2));
        says("Throws UnsupportedOperationException if there is a cut, or there are more than 10 leaves");
        is(UNSUPPORTED, () -> cutting(net("a A"), 0, 1).proofs());
        is(120, () -> net("(a*(a*(a*(a*a)))) A A A A A").proofs());
        is(UNSUPPORTED, () -> net("(a*(a*(a*(a*a)))) A A A A A a").proofs());
        is(UNSUPPORTED, () -> net("(a*(a*(a*(a*a)))) A A A A A a A").proofs());
        is(120, () -> withGone().proofs());
    }

    /** Twelve leaves have come, ten are left: 0 to 4 of a times, and 5 to 8 and 11. */
    private static Sidelessly withGone() {
        Sidelessly house = cutting(net("(a*(a*(a*(a*a)))) A A A A A a A", 0, 9, 10, 11), 5, 6);
        house.step(0);
        return house;
    }

    private static String linksOf(Sidelessly house, int... leaves) {
        StringBuilder seen = new StringBuilder();
        for (int leaf : leaves) {
            seen.append(seen.length() == 0 ? "" : " ").append(house.linked(leaf));
        }
        return seen.toString();
    }

    private void proof() {
        promise(43);
        says("Links all leaves in one of these ways.");
        Sidelessly house = net("(a*(a*a)) A A A", 1, 3, 0, 5);
        is(3, () -> house.proof(3));
        is("4 5 3 2 0 1", () -> linksOf(house, 0, 1, 2, 3, 4, 5));
        is(true, house::byContraction);
        says("index: the index, from 0: by the leaf that is linked to the lowest one, then by that linked to the next "
                + "lowest one, and so on");
        String[] ways = {"3 4 5", "3 5 4", "4 3 5", "4 5 3", "5 3 4", "5 4 3"};
        for (int index = 0; index < 6; index++) {
            int one = index;
            is(3, () -> house.proof(one));
            is(ways[index], () -> linksOf(house, 0, 1, 2));
        }
        says("Returns how many links there are.");
        is(1, () -> net("(a|A)").proof(0));
        is(5, () -> net("(a*(a*(a*(a*a)))) A A A A A").proof(119));
        is(5, () -> withGone().proof(0));
        says("Throws UnsupportedOperationException if there is a cut, or there are more than 10 leaves");
        is(UNSUPPORTED, () -> cutting(net("a A"), 0, 1).proof(0));
        is(UNSUPPORTED, () -> net("(a*(a*(a*(a*a)))) A A A A A a").proof(0));
        is(UNSUPPORTED, () -> net("(a*(a*(a*(a*a)))) A A A A A a A").proof(0));
        says("Throws NoSuchElementException if there is none");
        is(NO_SUCH, () -> house.proof(6));
        is(NO_SUCH, () -> house.proof(-1));
        is(NO_SUCH, () -> house.proof(Integer.MAX_VALUE));
        is(NO_SUCH, () -> house.proof(Integer.MIN_VALUE));
        is(NO_SUCH, () -> net("(a*A)").proof(0));
        is(NO_SUCH, () -> new Sidelessly().proof(0));
        is(NO_SUCH, () -> net("a A b").proof(0));
        is(ways[5], () -> linksOf(house, 0, 1, 2));
    }

    private void linkShare() {
        promise(44);
        says("Returns the share of leaves that are linked.");
        is(1.0f, () -> net("a A", 0, 1).linkShare());
        is(0.5f, () -> net("(a*b) A B", 0, 2).linkShare());
        is(0.0f, () -> net("a").linkShare());
        says("Returns their number divided by that of all that are left, both converted to float.");
        is(2.0f / 3.0f, () -> net("a A b", 0, 1).linkShare());
        is(6.0f / 7.0f, () -> net("a A a A a A b", 0, 1, 2, 3, 4, 5).linkShare());
        Sidelessly house = cutting(net("a A a A b", 0, 1, 2, 3), 1, 2);
        is(4.0f / 5.0f, house::linkShare);
        is('a', () -> house.step(0));
        is(2.0f / 3.0f, house::linkShare);
        says("Throws ArithmeticException if there are none");
        is(ARITHMETIC, () -> new Sidelessly().linkShare());
        is(5, house::clear);
        is(ARITHMETIC, house::linkShare);
    }

    private void meanAtoms() {
        promise(45);
        says("Returns the mean number of atoms of formulas.");
        Sidelessly house = new Sidelessly();
        is(0, () -> house.atom('a', false));
        is(1.0, house::meanAtoms);
        is(1, () -> house.times(0, 0));
        is(1.5, house::meanAtoms);
        says("Returns the sum divided by how many formulas there are, both converted to double.");
        is(2, () -> house.par(1, 1));
        is(7.0 / 3.0, house::meanAtoms);
        is(5, () -> house.dual(2));
        is(14.0 / 6.0, house::meanAtoms);
        is(6, () -> house.atom('b', false));
        is(15.0 / 7.0, house::meanAtoms);
        is((1 + 1 + 77) / 13.0, () -> Houses.withChain(false, 12).meanAtoms());
        says("Throws ArithmeticException if there are none");
        is(ARITHMETIC, () -> new Sidelessly().meanAtoms());
    }

    private static long sum(long... added) {
        long sum = 7;
        for (long one : added) {
            sum = 31 * sum + one;
        }
        return sum;
    }

    private void checksum() {
        promise(46);
        says("Returns a sum over the bench.");
        is(6727L, () -> new Sidelessly().checksum());
        is(sum(0, 10), () -> Houses.withAtoms().checksum());
        says("Returns 7 at first, then for each root that is left 31 times itself plus its formula; then for each leaf "
                + "that is left 31 times itself plus the linked leaf, -1 without; then 31 times itself plus how many "
                + "cuts there are, then 31 times itself plus how many formulas.");
        is(sum(0, 1, -1, -1, 0, 2), () -> net("a A").checksum());
        is(sum(0, 1, 1, 0, 0, 2), () -> net("a A", 0, 1).checksum());
        Sidelessly house = cutting(net("(a*b) (A|B) A a", 0, 4, 2, 5), 1, 0);
        is(sum(2, 5, 3, 0, 4, -1, 5, -1, 0, 2, 1, 6), house::checksum);
        is('b', () -> house.step(0));
        is(sum(3, 0, 3, 0, 4, 1, 4, -1, 5, -1, 0, 2, 2, 6), house::checksum);
        is('a', () -> house.step(0));
        is(sum(3, 0, 4, 1, -1, -1, 5, 4, 1, 6), house::checksum);
        long full = Houses.full().checksum();
        long due = 7;
        for (int root = 0; root < 24; root++) {
            due = 31 * due + root % 2;
        }
        for (int leaf = 0; leaf < 24; leaf++) {
            due = 31 * due + (leaf ^ 1);
        }
        long last = 31 * (31 * due + 11) + 60;
        is(last, () -> full);
    }

    private void isTrue() {
        promise(47);
        says("Checks that the three tests agree, if there are not too many pars and times; that, if the net is a "
                + "proof, its normal form is one whose links are the walks, and its meaning is a clique, if there "
                + "are not too many rows; and that links join duals.");
        is(true, () -> net("(a*b) (A|B)", 0, 2, 1, 3).isTrue());
        is(true, () -> cutting(net("(a*b) (A|B) A (a*b) B", 0, 4, 1, 7, 2, 5, 3, 6), 0, 1).isTrue());
        is(true, () -> withPoints(withGone(), 'a', 3).isTrue());
        is(true, () -> withPoints(Houses.full(), 'a', 3).isTrue());
        is(true, () -> withStar(8).isTrue());
        is(true, () -> withStar(12).isTrue());
        Sidelessly uncut = cutting(net("(a*b) (A|B) A (a*b) B", 0, 4, 1, 7, 2, 5, 3, 6), 0, 1);
        is(true, uncut::isTrue);
        is("1 5", () -> uncut.cuts() + " " + uncut.roots());
        says("Returns whether all of it holds.");
        is(true, () -> new Sidelessly().isTrue());
        is(true, () -> net("a A b").isTrue());
        is(true, () -> net("(a*A)", 0, 1).isTrue());
        is(true, () -> net("((A|b)*c) a (B*C)", 0, 3, 1, 4, 2, 5).isTrue());
        is(true, () -> cutting(net("a A", 0, 1), 0, 1).isTrue());
        is(true, () -> withAxioms(12).isTrue());
    }
}
