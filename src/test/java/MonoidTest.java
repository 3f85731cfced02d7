/** Promises 38 to 41: monoids, sets of letters, values of formulas, and the search for a monoid against one. */
public final class MonoidTest {
    private final Check check = new Check("MonoidTest");

    public static void main(String[] args) {
        MonoidTest test = new MonoidTest();
        test.monoids();
        test.sets();
        test.valuesAtFirst();
        test.valuesOfAtoms();
        test.valuesOfJoins();
        test.valuesRefused();
        test.counters();
        test.countersInOrder();
        test.countersLikeTheOracle();
        test.countersRefused();
        test.check.close();
    }

    private void monoids() {
        Sidelessly house = Houses.withAtoms();
        check.same("size at first", 1, house.monoid(3, 5));
        check.same("size before", 3, house.monoid(2, 3));
        check.same("size before", 2, house.monoid(1, 0));
        house.monoid(3, 7);
        house.set('b', 6);
        check.same("the same monoid once more", 3, house.monoid(3, 7));
        check.same("sets are none then", 0, house.set('b', 1));
        int[][] bad = {{0, 0}, {4, 0}, {-1, 0}, {Integer.MIN_VALUE, 0}, {Integer.MAX_VALUE, 0}, {1, 2}, {1, -1},
            {2, 4}, {2, -1}, {3, 8}, {3, Integer.MIN_VALUE}, {3, Integer.MAX_VALUE}, {32, 1}, {33, 1}};
        for (int[] one : bad) {
            check.refuses("monoid " + one[0] + ", " + one[1], Check.ARGUMENT, MonoidTest::withSets,
                    in -> in.monoid(one[0], one[1]));
        }
        for (int size = 1; size <= 3; size++) {
            house.monoid(size, (1 << size) - 1);
            check.same("the pole may be all of size " + size, size, house.monoid(size, 0));
        }
    }

    /** Size 3, the pole being 0 and 2, with sets. */
    private static Sidelessly withSets() {
        Sidelessly house = Houses.withAtoms();
        house.monoid(3, 5);
        house.set('a', 1);
        house.set('b', 6);
        house.set('e', 7);
        return house;
    }

    private void sets() {
        Sidelessly house = withSets();
        check.same("set before", 1, house.set('a', 4));
        check.same("set before", 4, house.set('a', 0));
        check.same("sets of letters are apart", 6, house.set('b', 6));
        check.same("none at first", 0, house.set('c', 7));
        check.same("all of them", 7, house.set('c', 7));
        for (char bad : new char[] {'`', 'f', 'A', 'E', 0, 65535}) {
            check.refuses("letter " + (int) bad, Check.ARGUMENT, MonoidTest::withSets, in -> in.set(bad, 1));
        }
        for (int bad : new int[] {-1, 8, 9, 16, Integer.MIN_VALUE, Integer.MAX_VALUE}) {
            check.refuses("numbers " + bad, Check.ARGUMENT, MonoidTest::withSets, in -> in.set('a', bad));
        }
        Sidelessly small = new Sidelessly();
        check.same("of size 1", 0, small.set('d', 1));
        check.refuses("2 is none of size 1", Check.ARGUMENT, Sidelessly::new, in -> in.set('d', 2));
        check.refuses("4 is none of size 2", Check.ARGUMENT, () -> {
            Sidelessly house2 = new Sidelessly();
            house2.monoid(2, 0);
            return house2;
        }, in -> in.set('d', 4));
    }

    /** Size 1 without a pole: the dual of none is all, that of all is none. */
    private void valuesAtFirst() {
        Check.Recipe recipe = () -> {
            Sidelessly house = new Sidelessly();
            Houses.told(house, "(a*A)");
            Houses.told(house, "(a|A)");
            return house;
        };
        check.tells("an atom", 0, recipe, house -> house.value(0));
        check.tells("a turned atom", 1, recipe, house -> house.value(1));
        check.tells("a times", 0, recipe, house -> house.value(2));
        check.tells("a par", 1, recipe, house -> house.value(3));
    }

    private static int dualOf(int size, int pole, int set) {
        int dual = 0;
        for (int number = 0; number < size; number++) {
            boolean isIn = true;
            for (int other = 0; other < size; other++) {
                if ((set & 1 << other) != 0 && (pole & 1 << (number + other) % size) == 0) {
                    isIn = false;
                }
            }
            dual |= isIn ? 1 << number : 0;
        }
        return dual;
    }

    private static int sumOf(int size, int set, int other) {
        int sum = 0;
        for (int one = 0; one < size; one++) {
            for (int two = 0; two < size; two++) {
                if ((set & 1 << one) != 0 && (other & 1 << two) != 0) {
                    sum |= 1 << (one + two) % size;
                }
            }
        }
        return sum;
    }

    private void valuesOfAtoms() {
        Sidelessly house = Houses.withAtoms();
        for (int size = 1; size <= 3; size++) {
            for (int pole = 0; pole < 1 << size; pole++) {
                house = size == 3 ? Houses.withAtoms() : house;
                house.monoid(size, pole);
                for (int set = 0; set < 1 << size; set++) {
                    house.set('c', set);
                    int dual = dualOf(size, pole, set);
                    String what = " with size " + size + ", pole " + pole + ", set " + set;
                    check.same("c" + what, dualOf(size, pole, dual), house.value(4));
                    check.same("C" + what, dual, house.value(5));
                }
            }
        }
        Sidelessly told = withSets();
        check.same("{0} is the dual of {0, 2}", 1, told.value(0));
        check.same("{0, 2} is the dual of {0}", 5, told.value(1));
        check.same("{1, 2} has the dual {1}", 2, told.value(3));
        check.same("and that has the dual {1, 2}", 6, told.value(2));
    }

    private void valuesOfJoins() {
        for (int size = 1; size <= 3; size++) {
            for (int pole = 0; pole < 1 << size; pole++) {
                for (int sets = 0; sets < 1 << 2 * size; sets++) {
                    joinsWith(size, pole, sets & (1 << size) - 1, sets >> size);
                }
            }
        }
        Sidelessly deep = new Sidelessly();
        int whole = Houses.told(deep, "((a*b)|(c*(a|B)))");
        deep.monoid(3, 1);
        deep.set('a', 2);
        deep.set('b', 4);
        deep.set('c', 1);
        check.same("a + b", 1, deep.value(2));
        check.same("a through B", 4, deep.value(5));
        check.same("c + that", 4, deep.value(6));
        check.same("the whole", 4, deep.value(whole));
    }

    private void joinsWith(int size, int pole, int one, int other) {
        Sidelessly house = new Sidelessly();
        Houses.told(house, "(a*b)");
        Houses.told(house, "(a|b)");
        house.monoid(size, pole);
        house.set('a', one);
        house.set('b', other);
        String what = " with size " + size + ", pole " + pole + ", sets " + one + " and " + other;
        int first = dualOf(size, pole, one);
        int second = dualOf(size, pole, other);
        int sums = sumOf(size, dualOf(size, pole, first), dualOf(size, pole, second));
        check.same("times" + what, dualOf(size, pole, dualOf(size, pole, sums)), house.value(2));
        check.same("par" + what, dualOf(size, pole, sumOf(size, first, second)), house.value(3));
        check.same("par of turned ones" + what, dualOf(size, pole, sums), parOfTurned(house));
    }

    private static int parOfTurned(Sidelessly house) {
        return house.value(house.par(house.dual(0), house.dual(1)));
    }

    private void valuesRefused() {
        for (int bad : new int[] {-1, 10, 60, Integer.MIN_VALUE, Integer.MAX_VALUE}) {
            check.refuses("value of " + bad, Check.INDEX, MonoidTest::withSets, house -> house.value(bad));
            check.refuses("counter of " + bad, Check.INDEX, MonoidTest::withSets, house -> house.counter(bad));
        }
    }

    /** The monoid that is told, as size, pole and sets; it is asked by calls that change it, so only once. */
    private static String told(Sidelessly house) {
        StringBuilder text = new StringBuilder();
        for (char letter = 'a'; letter <= 'e'; letter++) {
            text.append(house.set(letter, 0)).append(' ');
        }
        int dualOfZero = 0;
        int atom = house.atom('a', false);
        int turned = house.atom('a', true);
        house.set('a', 1);
        dualOfZero = house.value(turned);
        return text + "pole " + dualOfZero + " closed " + house.value(atom) + " size " + house.monoid(1, 0);
    }

    private void counters() {
        Sidelessly house = withSets();
        check.same("an atom", 1, house.counter(0));
        check.same("size 1, no pole, no sets", "0 0 0 0 0 pole 0 closed 1 size 1", told(house));
        Sidelessly turned = withSets();
        check.same("a turned atom", 1, turned.counter(1));
        check.same("the set is all, so that the dual is none", "1 0 0 0 0 pole 0 closed 1 size 1", told(turned));
        Sidelessly two = withSets();
        int formula = Houses.told(two, "(A*c)");
        check.same("a times", 1, two.counter(formula));
        check.same("the least of all", "0 0 0 0 0 pole 0 closed 1 size 1", told(two));
        Sidelessly par = withSets();
        check.same("a par of alike ones", 1, par.counter(Houses.told(par, "(B|B)")));
        check.same("the set of b", "0 1 0 0 0 pole 0 closed 1 size 1", told(par));
        Sidelessly last = withSets();
        check.same("letters that are not there have none", 1, last.counter(Houses.told(last, "(E*C)")));
        check.same("first the set of c", "0 0 0 0 1 pole 0 closed 1 size 1", told(last));
    }

    private void countersInOrder() {
        Sidelessly large = new Sidelessly();
        int formula = Houses.told(large, "((a|A)*(a|A))");
        check.same("what holds in all", "throws NoSuchElementException", Check.answerOf(() -> large.counter(formula)));
        Sidelessly second = new Sidelessly();
        int whole = Houses.told(second, "(a|(A|(b|B)))");
        check.same("a mix of two axioms", "2 then 0", second.counter(whole) + " then " + (second.value(whole) & 1));
        check.same("its monoid", secondTold(), told(second));
        Sidelessly threefold = new Sidelessly();
        check.same("a against a + a + a", 3, threefold.counter(Houses.told(threefold, "(A|(a*(a*a)))")));
        check.same("size 3, the pole being 0, the set of a being 1", "2 0 0 0 0 pole 1 closed 1 size 3",
                told(threefold));
        Sidelessly same = new Sidelessly();
        int alone = Houses.told(same, "((a*b)|((A|B)|(c|C)))");
        int size = same.counter(alone);
        check.same("with three letters", "size 2, not held", "size " + size + ", "
                + ((same.value(alone) & 1) == 0 ? "not held" : "held"));
    }

    /** By trying all, in the order that is due. */
    private static String secondTold() {
        Sidelessly house = new Sidelessly();
        int whole = Houses.told(house, "(a|(A|(b|B)))");
        for (int size = 1; size <= 3; size++) {
            for (int pole = 0; pole < 1 << size; pole++) {
                for (int first = 0; first < 1 << size; first++) {
                    for (int other = 0; other < 1 << size; other++) {
                        house.monoid(size, pole);
                        house.set('a', first);
                        house.set('b', other);
                        if ((house.value(whole) & 1) == 0) {
                            return told(house);
                        }
                    }
                }
            }
        }
        return "none";
    }

    /** The oracle tries all monoids one by one. */
    private void countersLikeTheOracle() {
        String[] texts = {"((a*b)|((A|B)|(c|C)))", "((b|C)*(a|(B|c)))", "(c|(A|(a*C)))", "((d*D)|(e|E))",
            "((a|b)|(A*B))", "((a|A)|(a*A))", "(((a*A)|(a|A))|(e|(c|(E*C))))", "((A|(b*C))|((a*c)|B))", "(a|(a|(A|A)))",
            "(A|(a*(a*a)))", "((A|(a*(a*a)))*((b|B)*(c|C)))", "((C|(c*(c*c)))*(e|E))",
            "((d|(D*(D*D)))*((b|B)*(a|A)))", "(((A|A)|(a*a))*(D|(d*(d*d))))"};
        for (String text : texts) {
            Sidelessly house = new Sidelessly();
            Oracle oracle = new Oracle();
            int whole = Houses.told(house, text);
            for (int formula = 0; formula <= whole; formula++) {
                char kind = house.kind(formula);
                if (kind == '*' || kind == '|') {
                    oracle.join(kind, house.part(formula, false), house.part(formula, true));
                } else {
                    oracle.atom(Character.toLowerCase(kind), Character.isUpperCase(kind));
                }
            }
            check.same("counter of " + text, Check.answerOf(() -> oracle.counter(whole)),
                    Check.answerOf(() -> house.counter(whole)));
            String sets = "";
            String due = "";
            for (char letter = 'a'; letter <= 'e'; letter++) {
                sets += house.set(letter, 0) + " ";
                due += oracle.sets[letter - 'a'] + " ";
            }
            check.same("sets against " + text, due, sets);
        }
    }

    private void countersRefused() {
        Check.Recipe recipe = () -> {
            Sidelessly house = withSets();
            Houses.told(house, "((a*b)*(C|d))");
            Houses.told(house, "((a|A)*(b|B))");
            Houses.told(house, "((a*b)*c)");
            Houses.told(house, "((a*A)|((B*b)*(d|D)))");
            return house;
        };
        check.same("the formula of four letters", 12, Houses.told(recipe.make(), "((a*b)*(C|d))"));
        check.refuses("four letters", Check.UNSUPPORTED, recipe, house -> house.counter(12));
        check.same("the formula that holds", 15, Houses.told(recipe.make(), "((a|A)*(b|B))"));
        check.refuses("what holds in all", Check.NO_SUCH, recipe, house -> house.counter(15));
        check.same("three letters", 1, recipe.make().counter(16));
        check.same("three letters, plain and turned", true, recipe.make().counter(20) > 0);
        Sidelessly house = recipe.make();
        check.same("five letters", "throws UnsupportedOperationException",
                Check.answerOf(() -> house.counter(house.times(12, house.atom('e', false)))));
    }
}
