/** Each sentence of the promises 23 to 33, in the order of the document: tests of nets, trees, cuts and walks. */
public final class SentencesOfProvingTest {
    private static final String INDEX = Sentences.INDEX;
    private static final String UNSUPPORTED = Sentences.UNSUPPORTED;
    private static final String NO_SUCH = Sentences.NO_SUCH;

    private final Sentences document = new Sentences("SentencesOfProvingTest");

    public static void main(String[] args) {
        SentencesOfProvingTest test = new SentencesOfProvingTest();
        test.byChoices();
        test.badChoice();
        test.byContraction();
        test.byTrips();
        test.splits();
        test.trees();
        test.cuts();
        test.step();
        test.normal();
        test.walk();
        test.passes();
        test.document.close(name -> name.matches("Promise (2[3-9]|3[0-3])"));
    }

    private void promise(int number) {
        document.in("Promise " + number);
    }

    private void says(String words) {
        document.says(words);
    }

    private void is(Object due, Check.Call call) {
        document.is(due, call);
    }

    private static Sidelessly net(String roots, int... links) {
        return Houses.net(roots, links);
    }

    private static Sidelessly cutting(Sidelessly house, int... roots) {
        return Houses.cutting(house, roots);
    }

    /** One root, a chain of times or pars, with so many of them. */
    private static Sidelessly withRootOf(boolean isPar, int joins) {
        Sidelessly house = Houses.withChain(isPar, joins + 1);
        house.place(joins + 1);
        return house;
    }

    /** A proof: a chain of so many times, each of its atoms being linked with a root A. */
    private static Sidelessly withStar(int times) {
        Sidelessly house = withRootOf(false, times);
        for (int leaf = 0; leaf <= times; leaf++) {
            house.place(1);
            house.link(leaf, times + 1 + leaf);
        }
        return house;
    }

    /** A proof: roots a, A, a, A .. that are linked two by two, so many of them being cut with the next one. */
    private static Sidelessly withCuts(int cuts) {
        Sidelessly house = new Sidelessly();
        house.atom('a', false);
        house.atom('a', true);
        for (int root = 0; root < 2 * cuts + 2; root += 2) {
            house.place(0);
            house.place(1);
            house.link(root, root + 1);
        }
        for (int root = 1; root < 2 * cuts; root += 2) {
            house.cut(root, root + 1);
        }
        return house;
    }

    private void byChoices() {
        promise(23);
        says("Tells whether the net is a proof, by all choices.");
        is(true, () -> net("(a*b) (A|B)", 0, 2, 1, 3).byChoices());
        is(false, () -> net("((A|b)*c) a (B*C)", 0, 3, 1, 4, 2, 5).byChoices());
        is(false, () -> net("((b|A)*c) a (B*C)", 0, 4, 1, 3, 2, 5).byChoices());
        says("Returns whether it is.");
        is(true, () -> net("a A", 0, 1).byChoices());
        is(false, () -> net("a A a A", 0, 1, 2, 3).byChoices());
        is(true, () -> withStar(11).byChoices());
        says("Throws UnsupportedOperationException if there are more than 10 pars");
        is(false, () -> withRootOf(true, 10).byChoices());
        is(UNSUPPORTED, () -> withRootOf(true, 11).byChoices());
        is(UNSUPPORTED, () -> {
            Sidelessly house = withRootOf(true, 6);
            house.place(6);
            return house.byChoices();
        });
        is(false, () -> withRootOf(false, 11).byChoices());
    }

    private void badChoice() {
        promise(24);
        says("Returns the first choice that is bad.");
        is(2, () -> net("(((A|b)*c)|(a|(B*C)))", 0, 3, 1, 4, 2, 5).badChoice());
        is(1, () -> net("((A|b)*c) a (B*C)", 0, 3, 1, 4, 2, 5).badChoice());
        says("Returns the choice.");
        is(0, () -> net("((b|A)*c) a (B*C)", 0, 4, 1, 3, 2, 5).badChoice());
        is(0, () -> net("(a*A)", 0, 1).badChoice());
        says("Throws UnsupportedOperationException if there are more than 10 pars");
        is(UNSUPPORTED, () -> withRootOf(true, 11).badChoice());
        is(NO_SUCH, () -> withRootOf(true, 10).badChoice());
        is(NO_SUCH, () -> withRootOf(false, 11).badChoice());
        says("Throws NoSuchElementException if the net is a proof, has no root, or a leaf is not linked");
        is(NO_SUCH, () -> net("(a*b) (A|B)", 0, 2, 1, 3).badChoice());
        is(NO_SUCH, () -> new Sidelessly().badChoice());
        is(NO_SUCH, () -> net("(a*A) b", 0, 1).badChoice());
        is(NO_SUCH, () -> net("(a|b) A B", 0, 2).badChoice());
    }

    private void byContraction() {
        promise(25);
        says("Tells whether the net is a proof, by contraction.");
        is(true, () -> net("(a*b) (A|B)", 0, 2, 1, 3).byContraction());
        is(false, () -> net("((A|b)*c) a (B*C)", 0, 3, 1, 4, 2, 5).byContraction());
        says("Returns whether it is.");
        is(true, () -> net("a A", 0, 1).byContraction());
        is(false, () -> net("a A a A", 0, 1, 2, 3).byContraction());
        is(false, () -> withRootOf(true, 11).byContraction());
        is(true, () -> withStar(11).byContraction());
    }

    private void byTrips() {
        promise(26);
        says("Tells whether the net is a proof, by trips.");
        is(true, () -> net("(a*b) (A|B)", 0, 2, 1, 3).byTrips());
        is(false, () -> net("((A|b)*c) a (B*C)", 0, 3, 1, 4, 2, 5).byTrips());
        is(false, () -> net("((b|A)*c) a (B*C)", 0, 4, 1, 3, 2, 5).byTrips());
        says("Returns whether it is.");
        is(true, () -> net("a A", 0, 1).byTrips());
        is(false, () -> net("a A a A", 0, 1, 2, 3).byTrips());
        is(true, () -> withStar(10).byTrips());
        says("Throws UnsupportedOperationException if there are more than 10 times and pars");
        is(UNSUPPORTED, () -> withStar(11).byTrips());
        is(false, () -> withRootOf(true, 10).byTrips());
        is(UNSUPPORTED, () -> withRootOf(true, 11).byTrips());
        is(UNSUPPORTED, () -> withRootOf(false, 11).byTrips());
        is(UNSUPPORTED, () -> {
            Sidelessly house = withRootOf(false, 5);
            int chain = 0;
            for (int next = 0; next < 6; next++) {
                chain = house.par(chain, 0);
            }
            house.place(chain);
            return house.byTrips();
        });
        is(true, () -> withCuts(11).byTrips());
    }

    private void splits() {
        promise(27);
        says("Returns how many times and cuts split the proof.");
        is(2, () -> net("(a*b) (B*c) A C", 0, 4, 1, 2, 3, 5).splits());
        is(0, () -> net("(a*b) (A|B)", 0, 2, 1, 3).splits());
        is(2, () -> cutting(net("(a*b) A B b B", 0, 2, 1, 3, 4, 5), 2, 3).splits());
        says("Returns how many.");
        is(0, () -> net("a A", 0, 1).splits());
        is(1, () -> withStar(11).splits());
        is(11, () -> withCuts(11).splits());
        says("Throws UnsupportedOperationException if the net is no proof");
        is(UNSUPPORTED, () -> new Sidelessly().splits());
        is(UNSUPPORTED, () -> net("(a*b) A B", 0, 2).splits());
        is(UNSUPPORTED, () -> net("(a*A)", 0, 1).splits());
        is(UNSUPPORTED, () -> net("a A a A", 0, 1, 2, 3).splits());
    }

    private void trees() {
        promise(28);
        says("Returns how many trees the proof has.");
        is(2, () -> net("(a*b) (B*c) A C", 0, 4, 1, 2, 3, 5).trees());
        is(1, () -> net("(a*b) (A|B)", 0, 2, 1, 3).trees());
        is(2, () -> cutting(net("(a*b) A B b B", 0, 2, 1, 3, 4, 5), 2, 3).trees());
        says("Returns how many.");
        is(5, () -> net("((a*b)*(c*d)) (A|B) (C|D)", 0, 4, 1, 5, 2, 6, 3, 7).trees());
        is(1, () -> withStar(10).trees());
        is(16796, () -> withCuts(10).trees());
        says("Throws UnsupportedOperationException if the net is no proof, or there are more than 10 times, pars and "
                + "cuts");
        is(UNSUPPORTED, () -> new Sidelessly().trees());
        is(UNSUPPORTED, () -> net("(a*b) A B", 0, 2).trees());
        is(UNSUPPORTED, () -> net("(a*A)", 0, 1).trees());
        is(UNSUPPORTED, () -> withStar(11).trees());
        is(UNSUPPORTED, () -> withCuts(11).trees());
    }

    private void cuts() {
        promise(29);
        says("Returns how many cuts there are.");
        is(0, () -> new Sidelessly().cuts());
        is(1, () -> cutting(net("a A"), 1, 0).cuts());
        says("Returns how many.");
        is(2, () -> withCuts(2).cuts());
        is(11, () -> withCuts(11).cuts());
        Sidelessly house = cutting(net("(a*b) (A|B)"), 0, 1);
        is('b', () -> house.step(0));
        is(2, house::cuts);
        Sidelessly atoms = withCuts(3);
        is('a', () -> atoms.step(2));
        is(2, atoms::cuts);
    }

    private void step() {
        promise(30);
        says("Makes a step.");
        Sidelessly house = withCuts(3);
        is('a', () -> house.step(1));
        is("5 2 1", () -> house.linked(2) + " " + house.linked(5) + " " + house.linked(0));
        is("2 6", () -> house.cuts() + " " + house.roots());
        says("cut: the cut, from 0");
        is('a', () -> house.step(1));
        is("7 1", () -> house.linked(2) + " " + house.linked(0));
        is('a', () -> house.step(0));
        is("7 0", () -> house.linked(0) + " " + house.linked(7));
        says("Returns 'a' or 'b'.");
        is('b', () -> cutting(net("(a|b) (A*B)"), 0, 1).step(0));
        is('a', () -> withCuts(1).step(0));
        says("Throws IndexOutOfBoundsException if there is no such cut");
        is(INDEX, () -> house.step(0));
        is(INDEX, () -> withCuts(2).step(2));
        is(INDEX, () -> withCuts(2).step(-1));
        is(INDEX, () -> withCuts(2).step(Integer.MAX_VALUE));
        is('a', () -> withCuts(2).step(1));
        says("Throws UnsupportedOperationException if it is refused");
        is(UNSUPPORTED, () -> cutting(net("a A", 0, 1), 0, 1).step(0));
        is(UNSUPPORTED, () -> cutting(net("a A A", 0, 2), 0, 1).step(0));
        is(UNSUPPORTED, () -> cutting(net("A a A", 0, 1), 1, 2).step(0));
    }

    private void normal() {
        promise(31);
        says("Makes the normal form.");
        Sidelessly house = cutting(net("(a*b) (A|B) A (a*b) B", 0, 4, 1, 7, 2, 5, 3, 6), 1, 0);
        is(3, house::normal);
        is("5 4 7 6", () -> house.linked(4) + " " + house.linked(5) + " " + house.linked(6) + " " + house.linked(7));
        is("0 3", () -> house.cuts() + " " + house.roots());
        is(INDEX, () -> house.linked(0));
        is(INDEX, () -> house.rootAt(5));
        says("Returns how many steps it took.");
        is(0, house::normal);
        is(11, () -> withCuts(11).normal());
        is(0, () -> new Sidelessly().normal());
        Sidelessly three = cutting(net("(a*(b*c)) (A|(B|C)) A B C a b c", 0, 6, 1, 7, 2, 8, 3, 9, 4, 10, 5, 11), 1, 0);
        is(5, three::normal);
        is("9 10 11", () -> three.linked(6) + " " + three.linked(7) + " " + three.linked(8));
        says("Throws UnsupportedOperationException if a step is refused");
        is(UNSUPPORTED, () -> cutting(net("a A", 0, 1), 0, 1).normal());
        Sidelessly halfWay = cutting(net("(a*b) (A|B) A a B", 0, 4, 1, 6, 2, 5), 0, 1);
        is(UNSUPPORTED, halfWay::normal);
        is("1 5", () -> halfWay.cuts() + " " + halfWay.roots());
        is("4 5", () -> halfWay.linked(0) + " " + halfWay.linked(2));
    }

    private void walk() {
        promise(32);
        says("Lets a token walk.");
        is(5, () -> withCuts(2).walk(0));
        says("leaf: the leaf");
        is(0, () -> withCuts(2).walk(5));
        says("Returns the leaf at which it ends.");
        is(1, () -> net("(a*A)", 0, 1).walk(0));
        is(23, () -> withCuts(11).walk(0));
        says("Throws IndexOutOfBoundsException if there is no such leaf any more");
        Sidelessly gone = withCuts(1);
        is('a', () -> gone.step(0));
        is(3, () -> gone.walk(0));
        for (int none : new int[] {-1, 1, 2, 4, Integer.MIN_VALUE, Integer.MAX_VALUE}) {
            is(INDEX, () -> gone.walk(none));
        }
        says("Throws UnsupportedOperationException if it is of a root that is cut, or the token comes to a leaf that "
                + "is not linked");
        is(UNSUPPORTED, () -> withCuts(1).walk(1));
        is(UNSUPPORTED, () -> withCuts(1).walk(2));
        is(UNSUPPORTED, () -> net("a A").walk(0));
        is(UNSUPPORTED, () -> cutting(net("a A a A", 0, 1), 1, 2).walk(0));
        is(UNSUPPORTED, () -> cutting(net("a A a A a A", 0, 1, 2, 3), 1, 2, 3, 4).walk(0));
        is(3, () -> cutting(net("a A a A b", 0, 1, 2, 3), 1, 2).walk(0));
    }

    private void passes() {
        promise(33);
        says("Returns how many links a token passes.");
        is(3, () -> withCuts(2).passes(0));
        says("leaf: the leaf");
        is(3, () -> withCuts(2).passes(5));
        is(1, () -> cutting(net("b B a A a A", 0, 1, 2, 3, 4, 5), 3, 4).passes(1));
        says("Returns how many.");
        is(1, () -> net("(a*A)", 0, 1).passes(0));
        is(12, () -> withCuts(11).passes(0));
        says("Throws IndexOutOfBoundsException if there is no such leaf any more");
        Sidelessly gone = withCuts(1);
        is('a', () -> gone.step(0));
        is(1, () -> gone.passes(0));
        for (int none : new int[] {-1, 1, 2, 4, Integer.MIN_VALUE, Integer.MAX_VALUE}) {
            is(INDEX, () -> gone.passes(none));
        }
        says("Throws UnsupportedOperationException if it is of a root that is cut, or the token comes to a leaf that "
                + "is not linked");
        is(UNSUPPORTED, () -> withCuts(1).passes(1));
        is(UNSUPPORTED, () -> withCuts(1).passes(2));
        is(UNSUPPORTED, () -> net("a A").passes(0));
        is(UNSUPPORTED, () -> cutting(net("a A a A", 0, 1), 1, 2).passes(0));
        is(UNSUPPORTED, () -> cutting(net("a A a A a A", 0, 1, 2, 3), 1, 2, 3, 4).passes(0));
        is(2, () -> cutting(net("a A a A b", 0, 1, 2, 3), 1, 2).passes(0));
    }
}
