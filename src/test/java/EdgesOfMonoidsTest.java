/** Promises 38 to 41, and the terms of monoids: each sentence that names a boundary, inside it and outside. */
public final class EdgesOfMonoidsTest {
    /** Formulas; the size, the pole and the sets of a to e of the first monoid in which they do not hold. */
    private static final String[] COUNTERS = {
        "a 1 0 00000", "D 1 0 00010", "(a*A) 1 0 00000", "(A|b) 1 0 10000", "(C*E) 1 0 00001", "((C*A)|b) 1 0 00100",
        "((A|c)|E) 1 0 10001", "((B|A)|C) 1 0 11100", "(A*(B|C)) 1 0 01100",
        "(A|(a|a)) 2 1 20000", "((C|a)|(c|b)) 2 1 00100", "(B|(b|a)) 2 1 01000", "((A|a)|(C*E)) 2 1 10003",
        "((E|a)|(A*((C|(E*e))|c))) 2 1 00103", "((C|e)|(A|E)) 2 1 10201", "(((A|C)|(A*B))|(c|b)) 2 1 30100",
        "(((B|a)|A)|B) 2 1 13000", "((B*B)|(b|B)) 2 2 01000", "((D|e)|(d|E)) 2 2 00011",
        "(A|(a*(a*a))) 3 1 20000", "((A|(a|A))|A) 3 1 20000", "(c|(((e|C)*(e|e))|E)) 3 1 00102",
        "(B|(E|((b*e)|(b|b)))) 3 1 02001", "((a|(A|A))|((a|A)|a)) 3 2 10000", "(e|(((E|e)|c)|(E|C))) 3 2 00101"};

    private final Check check = new Check("EdgesOfMonoidsTest");

    public static void main(String[] args) {
        EdgesOfMonoidsTest test = new EdgesOfMonoidsTest();
        test.atFirst();
        test.sizes();
        test.poles();
        test.setsAreNoneThen();
        test.letters();
        test.numbersOfSets();
        test.sumsOfLargest();
        test.dualOfNone();
        test.noSuchFormula();
        test.leastCounters();
        test.lettersThatAreNotThere();
        test.threeLetters();
        test.noneUpToThree();
        test.largeFormulas();
        test.check.close();
    }

    /** Size 3, the pole being 0 and 2, with sets of all letters; the atoms are the formulas 0 to 9. */
    private static Sidelessly withSets() {
        Sidelessly house = Houses.withAtoms();
        house.monoid(3, 5);
        for (char letter = 'a'; letter <= 'e'; letter++) {
            house.set(letter, 1 + letter - 'a');
        }
        return house;
    }

    private void atFirst() {
        check.sentence("The numbers below the size, 1 to 3, 1 at first .. some are the pole, none at first .. Each "
                + "letter "
                + "has a set, none at first");
        check.same("the size before", 1, new Sidelessly().monoid(3, 0));
        for (char letter = 'a'; letter <= 'e'; letter++) {
            check.same("the set before", 0, new Sidelessly().set(letter, 1));
            char one = letter;
            check.refuses("1 is no number", Check.ARGUMENT, Sidelessly::new, house -> house.set(one, 2));
        }
        check.tells("the dual of the dual of none, without a pole", 0, Houses::withAtoms, house -> house.value(0));
        check.tells("the dual of none", 1, Houses::withAtoms, house -> house.value(1));
        Sidelessly house = Houses.withAtoms();
        house.set('a', 1);
        check.same("the dual of 0 is the pole", 0, house.value(1));
    }

    private void sizes() {
        check.sentence("monoid: IllegalArgumentException if the size is out of range");
        for (int before = 1; before <= 3; before++) {
            int had = before;
            Check.Recipe recipe = () -> {
                Sidelessly house = Houses.withAtoms();
                house.monoid(had, 1);
                house.set('a', 1);
                return house;
            };
            for (int size = -1; size <= 5; size++) {
                int told = size;
                check.answers("size " + size + " behind " + before,
                        size < 1 || size > 3 ? Check.ARGUMENT : Check.NOTHING, had, recipe,
                        house -> house.monoid(told, 0));
            }
        }
        for (int bad : new int[] {Integer.MIN_VALUE, -32, -31, 31, 32, 33, 34, 35, Integer.MAX_VALUE}) {
            check.refuses("size " + bad, Check.ARGUMENT, EdgesOfMonoidsTest::withSets, house -> house.monoid(bad, 0));
            check.refuses("size " + bad + " with a pole", Check.ARGUMENT, EdgesOfMonoidsTest::withSets,
                    house -> house.monoid(bad, 1));
        }
    }

    private void poles() {
        check.sentence("or the pole is none of it");
        for (int size = 1; size <= 3; size++) {
            int told = size;
            for (int pole = -2; pole <= 17; pole++) {
                int bits = pole;
                check.answers("pole " + pole + " of size " + size,
                        pole < 0 || pole >= 1 << size ? Check.ARGUMENT : Check.NOTHING, 3,
                        EdgesOfMonoidsTest::withSets, house -> house.monoid(told, bits));
                if (pole >= 0 && pole < 1 << size) {
                    Sidelessly house = Houses.withAtoms();
                    house.monoid(size, pole);
                    house.set('c', 1);
                    check.same("the dual of 0 is the pole " + pole, pole, house.value(5));
                }
            }
            for (int bad : new int[] {Integer.MIN_VALUE, 1 << 30, Integer.MIN_VALUE + 1, Integer.MAX_VALUE}) {
                check.refuses("pole " + bad, Check.ARGUMENT, EdgesOfMonoidsTest::withSets,
                        house -> house.monoid(told, bad));
            }
        }
    }

    private void setsAreNoneThen() {
        check.sentence("Tells a monoid; the sets of letters are none then.");
        for (int size = 1; size <= 3; size++) {
            Sidelessly house = withSets();
            house.monoid(size, 1);
            for (char letter = 'a'; letter <= 'e'; letter++) {
                check.same("the set of " + letter, 0, house.set(letter, 1));
            }
        }
        Sidelessly same = withSets();
        same.monoid(3, 5);
        check.same("with the same monoid told again", 0, same.set('e', 1));
        Sidelessly refused = withSets();
        check.same("refused", "throws IllegalArgumentException", Check.answerOf(() -> refused.monoid(3, 8)));
        check.same("then they stay", 5, refused.set('e', 1));
    }

    private void letters() {
        check.sentence("set: IllegalArgumentException if there is no such letter");
        for (char letter : new char[] {'`', 'f', 'A', 'E', ' ', 0, 65535}) {
            check.refuses("letter " + (int) letter, Check.ARGUMENT, EdgesOfMonoidsTest::withSets,
                    house -> house.set(letter, 1));
            check.refuses("letter " + (int) letter + ", none", Check.ARGUMENT, EdgesOfMonoidsTest::withSets,
                    house -> house.set(letter, 0));
        }
        for (char letter = 'a'; letter <= 'e'; letter++) {
            check.same("letter " + letter, 1 + letter - 'a', withSets().set(letter, 7));
        }
    }

    private void numbersOfSets() {
        check.sentence("or a number is none of the monoid; set: Returns the set before.");
        for (int size = 1; size <= 3; size++) {
            int told = size;
            Check.Recipe recipe = () -> {
                Sidelessly house = Houses.withAtoms();
                house.monoid(told, 0);
                house.set('b', 1);
                return house;
            };
            for (int numbers = -2; numbers <= 17; numbers++) {
                int bits = numbers;
                check.answers("numbers " + numbers + " of size " + size,
                        numbers < 0 || numbers >= 1 << size ? Check.ARGUMENT : Check.NOTHING, 1, recipe,
                        house -> house.set('b', bits));
            }
            for (int bad : new int[] {Integer.MIN_VALUE, Integer.MIN_VALUE + 1, 1 << 30, Integer.MAX_VALUE}) {
                check.refuses("numbers " + bad, Check.ARGUMENT, recipe, house -> house.set('b', bad));
            }
            Sidelessly house = recipe.make();
            house.set('b', (1 << size) - 1);
            check.same("all numbers", (1 << size) - 1, house.set('b', 0));
            check.same("none", 0, house.set('b', 0));
        }
    }

    /** With the pole being one number alone each set of one number is the dual of the dual of itself. */
    private void sumsOfLargest() {
        check.sentence("are added, the rest by the size being taken");
        for (int size = 1; size <= 3; size++) {
            for (int one = 0; one < size; one++) {
                for (int other = 0; other < size; other++) {
                    Sidelessly house = new Sidelessly();
                    Houses.told(house, "(a*b)");
                    Houses.told(house, "(a|b)");
                    house.monoid(size, 1);
                    house.set('a', 1 << one);
                    house.set('b', 1 << other);
                    check.same(one + " and " + other + " of size " + size, 1 << (one + other) % size, house.value(2));
                    check.same("a par of both", 1 << (one + other) % size, house.value(3));
                }
            }
        }
    }

    private void dualOfNone() {
        check.sentence("The dual of a set is all numbers that with each of it add up to one of the pole.");
        for (int size = 1; size <= 3; size++) {
            int all = (1 << size) - 1;
            Sidelessly house = Houses.withAtoms();
            house.monoid(size, 0);
            check.same("of none, all", all, house.value(1));
            check.same("of all, none without a pole", 0, house.value(0));
            house.monoid(size, all);
            check.same("of none, all, with all as the pole", all, house.value(1));
            check.same("of all, all with all as the pole", all, house.value(0));
            house.set('a', all);
            check.same("of all as well", all, house.value(1));
        }
    }

    private void noSuchFormula() {
        check.sentence("value, counter: IndexOutOfBoundsException if there is no such formula");
        for (int bad : new int[] {Integer.MIN_VALUE, -1, 10, 59, 60, Integer.MAX_VALUE}) {
            check.refuses("value of " + bad, Check.INDEX, EdgesOfMonoidsTest::withSets, house -> house.value(bad));
            check.refuses("counter of " + bad, Check.INDEX, EdgesOfMonoidsTest::withSets, house -> house.counter(bad));
        }
        check.refuses("value in an empty house", Check.INDEX, Sidelessly::new, house -> house.value(0));
        check.refuses("counter in an empty house", Check.INDEX, Sidelessly::new, house -> house.counter(0));
        check.tells("value of the last one", 0, Houses::full, house -> house.value(59) & 1);
        check.same("counter of the last one", 1, Houses.full().counter(59));
        check.refuses("value of the 61st", Check.INDEX, Houses::full, house -> house.value(60));
        check.refuses("counter of the 61st", Check.INDEX, Houses::full, house -> house.counter(60));
    }

    private void leastCounters() {
        check.sentence("the least size, then the least pole, then the least set of 'a' as a number, then of 'b' and "
                + "so on");
        for (String told : COUNTERS) {
            String[] words = told.split(" ");
            Sidelessly house = withSets();
            int formula = Houses.told(house, words[0]);
            check.same("size against " + words[0], words[1], "" + house.counter(formula));
            check.same("it does not hold: " + words[0], 0, house.value(formula) & 1);
            StringBuilder sets = new StringBuilder();
            for (char letter = 'a'; letter <= 'e'; letter++) {
                sets.append(house.set(letter, 1));
            }
            check.same("sets against " + words[0], words[3], sets.toString());
            check.same("pole against " + words[0], words[2], "" + house.value(1));
            check.same("it is told: " + words[0], words[1], "" + house.monoid(1, 0));
        }
    }

    private void lettersThatAreNotThere() {
        check.sentence("letters that the formula has not having none");
        for (int atom = 0; atom < 10; atom++) {
            Sidelessly house = withSets();
            check.same("an atom", 1, house.counter(atom));
            for (char letter = 'a'; letter <= 'e'; letter++) {
                boolean isAllOfIt = atom % 2 == 1 && letter - 'a' == atom / 2;
                check.same("the set of " + letter, isAllOfIt ? 1 : 0, house.set(letter, 0));
            }
        }
    }

    private void threeLetters() {
        check.sentence("Throws UnsupportedOperationException if it has more than 3 letters");
        String[] few = {"(a*(b*c))", "((a*A)*((c*C)*(e*E)))", "((e*d)*(C*(D*(E*c))))", "(((a*b)*c)*((a*b)*c))"};
        for (String text : few) {
            Sidelessly house = withSets();
            check.same("three letters " + text, 1, house.counter(Houses.told(house, text)));
        }
        String[] many = {"((a*b)*(c*d))", "((A*b)*(C*e))", "(b*(c*(d*e)))", "((a*b)*(c*(d*e)))",
            "((a|A)*((b|B)*((c|C)*(d|D))))", "(((a*b)*(a*b))*((a*c)*(a*d)))"};
        for (String text : many) {
            check.refuses("more letters " + text, Check.UNSUPPORTED, () -> {
                Sidelessly house = withSets();
                Houses.told(house, text);
                return house;
            }, house -> house.counter(Houses.told(house, text)));
        }
    }

    private void noneUpToThree() {
        check.sentence("Throws NoSuchElementException if there is none up to the size 3");
        Sidelessly three = withSets();
        check.same("a against three times a, of size 3", 3, three.counter(Houses.told(three, "(A|(a*(a*a)))")));
        String four = "(A|(a*(a*(a*(a*(a*(a*a)))))))";
        String[] none = {four, "(a|A)", "((a|A)*((b|B)*(c|C)))", "((a*b)|(A|B))", "((a|b)|(A*B))", "((A|A)|(a*a))"};
        for (String text : none) {
            check.refuses("counter of " + text, Check.NO_SUCH, () -> {
                Sidelessly house = withSets();
                Houses.told(house, text);
                return house;
            }, house -> house.counter(Houses.told(house, text)));
        }
    }

    private void largeFormulas() {
        check.sentence("counter: formulas of 12 atoms and of 3 letters");
        Sidelessly house = withSets();
        int one = Houses.told(house, "((a|A)*(b|B))");
        int other = house.times(one, house.par(house.atom('c', false), house.atom('c', true)));
        int whole = house.times(other, other);
        check.same("12 atoms that hold in all", "throws NoSuchElementException",
                Check.answerOf(() -> house.counter(whole)));
        check.same("the sets stay", 5, house.set('e', 1));
        Sidelessly chain = Houses.withChain(false, 12);
        check.same("12 atoms", 1, chain.counter(12));
        check.same("none of them holds", 0, chain.value(12));
    }
}
