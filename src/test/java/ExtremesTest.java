import java.util.Locale;

/**
 * An empty house, one with a bit of all, and a full one: each method with the least and the greatest int, and with
 * other numbers beyond all limits, as each one of its arguments; and what each method answers in each house.
 */
public final class ExtremesTest {
    private static final int[] EXTREMES = {Integer.MIN_VALUE, Integer.MIN_VALUE + 1, -1000000007, -61, -1, 61, 64, 720,
        65536, 1 << 30, Integer.MAX_VALUE - 1, Integer.MAX_VALUE};

    /** A call with some numbers. */
    private interface Numbers {
        Object make(Sidelessly house, int[] numbers);
    }

    /** A method; for each number that it takes, what it throws if there is none such, and one that is fine. */
    private enum Method {
        TIMES("ii", (house, n) -> house.times(n[0], n[1]), 0, 1),
        PAR("ii", (house, n) -> house.par(n[0], n[1]), 0, 1),
        DUAL("i", (house, n) -> house.dual(n[0]), 0),
        KIND("i", (house, n) -> house.kind(n[0]), 0),
        FIRST_PART("i", (house, n) -> house.part(n[0], false), 2),
        SECOND_PART("i", (house, n) -> house.part(n[0], true), 2),
        AXIOM("i", (house, n) -> house.axiom(n[0]), 0),
        JOIN_PAR("iii", (house, n) -> house.joinPar(n[0], n[1], n[2]), 0, 0, 1),
        JOIN_TIMES("iiii", (house, n) -> house.joinTimes(n[0], n[1], n[2], n[3]), 0, 0, 1, 0),
        JOIN_CUT("iiii", (house, n) -> house.joinCut(n[0], n[1], n[2], n[3]), 0, 0, 1, 1),
        CONCLUSIONS("i", (house, n) -> house.conclusions(n[0]), 0),
        CONCLUSION("in", (house, n) -> house.conclusion(n[0], n[1]), 0, 0),
        TAKE("i", (house, n) -> house.take(n[0]), 0),
        PLACE("i", (house, n) -> house.place(n[0]), 0),
        LINK("ii", (house, n) -> house.link(n[0], n[1]), 0, 3),
        UNLINK("i", (house, n) -> house.unlink(n[0]), 0),
        CUT("ii", (house, n) -> house.cut(n[0], n[1]), 0, 3),
        ROOT_AT("i", (house, n) -> house.rootAt(n[0]), 0),
        LINKED("i", (house, n) -> house.linked(n[0]), 0),
        STEP("i", (house, n) -> house.step(n[0]), 0),
        WALK("i", (house, n) -> house.walk(n[0]), 0),
        PASSES("i", (house, n) -> house.passes(n[0]), 0),
        POINTS("a", (house, n) -> house.points('a', n[0]), 1),
        NEAR("aa", (house, n) -> house.near('a', n[0], n[1], true), 0, 1),
        MONOID("aa", (house, n) -> house.monoid(n[0], n[1]), 1, 0),
        SET("a", (house, n) -> house.set('a', n[0]), 0),
        VALUE("i", (house, n) -> house.value(n[0]), 0),
        COUNTER("i", (house, n) -> house.counter(n[0]), 0);

        private final String sorts;
        private final Numbers call;
        private final int[] fine;

        Method(String sorts, Numbers call, int... fine) {
            this.sorts = sorts;
            this.call = call;
            this.fine = fine;
        }
    }

    private final Check check = new Check("ExtremesTest");

    public static void main(String[] args) {
        ExtremesTest test = new ExtremesTest();
        for (Method method : Method.values()) {
            test.extremes("an empty house", method, Sidelessly::new);
            test.extremes("a house with a bit of all", method, ExtremesTest::withSome);
            test.extremes("a full house", method, Houses::full);
        }
        test.proofs();
        test.emptyHouse();
        test.houseWithSome();
        test.fullHouse();
        test.fullHouseStays();
        test.check.close();
    }

    /** a, A and (a*A); two axioms; the roots a, A, a, A, the links 0-1 and 2-3 and the cut 1-2. */
    private static Sidelessly withSome() {
        Sidelessly house = new Sidelessly();
        house.times(house.atom('a', false), house.atom('a', true));
        house.axiom(0);
        house.axiom(0);
        for (int root = 0; root < 4; root++) {
            house.place(root % 2);
        }
        house.link(0, 1);
        house.link(2, 3);
        house.cut(1, 2);
        return house;
    }

    private static Class<? extends RuntimeException> thrownFor(char sort) {
        return sort == 'i' ? Check.INDEX : sort == 'n' ? Check.NO_SUCH : Check.ARGUMENT;
    }

    /** In an empty house an index that is fine elsewhere is none either, and comes ahead. */
    private void extremes(String where, Method method, Check.Recipe recipe) {
        boolean isEmpty = where.contains("empty");
        for (int place = 0; place < method.fine.length; place++) {
            for (int extreme : EXTREMES) {
                int[] numbers = method.fine.clone();
                numbers[place] = extreme;
                Class<? extends RuntimeException> due = thrownFor(method.sorts.charAt(isEmpty ? 0 : place));
                look(where, method, numbers, due, recipe);
                for (int other = place + 1; other < method.fine.length; other++) {
                    int[] both = numbers.clone();
                    both[other] = EXTREMES[EXTREMES.length - 1 - other];
                    look(where, method, both, thrownFor(method.sorts.charAt(0)), recipe);
                }
            }
        }
    }

    private void look(String where, Method method, int[] numbers, Class<? extends RuntimeException> due,
            Check.Recipe recipe) {
        StringBuilder what = new StringBuilder(where + ": " + method.name().toLowerCase(Locale.ROOT));
        for (int number : numbers) {
            what.append(' ').append(number);
        }
        check.refuses(what.toString(), due, recipe, house -> method.call.make(house, numbers));
    }

    private void proofs() {
        for (int extreme : EXTREMES) {
            check.refuses("proof " + extreme + " of nothing", Check.NO_SUCH, Sidelessly::new,
                    house -> house.proof(extreme));
            check.refuses("proof " + extreme + " of a cut", Check.UNSUPPORTED, ExtremesTest::withSome,
                    house -> house.proof(extreme));
            check.refuses("proof " + extreme + " of 24 leaves", Check.UNSUPPORTED, Houses::full,
                    house -> house.proof(extreme));
            check.refuses("proof " + extreme + " of four leaves", Check.NO_SUCH,
                    () -> Houses.withRoots("(a*a)", "(A|A)"), house -> house.proof(extreme));
        }
    }

    private void throwsAll(String where, Check.Recipe recipe, Class<? extends RuntimeException> due,
            Check.HouseCall... calls) {
        for (int index = 0; index < calls.length; index++) {
            check.refuses(where + ", call " + index + " of those that throw " + due.getSimpleName(), due, recipe,
                    calls[index]);
        }
    }

    private void emptyHouse() {
        Check.Recipe empty = Sidelessly::new;
        throwsAll("an empty house", empty, Check.INDEX, house -> house.times(0, 0), house -> house.par(0, 0),
                house -> house.dual(0), house -> house.kind(0), house -> house.part(0, false), house -> house.axiom(0),
                house -> house.joinPar(0, 0, 1), house -> house.joinPar(0, 0, 0), house -> house.joinTimes(0, 0, 1, 0),
                house -> house.joinTimes(0, 0, 0, 0), house -> house.joinCut(0, 0, 1, 1),
                house -> house.joinCut(0, 0, 0, 1), house -> house.conclusions(0), house -> house.conclusion(0, 0),
                house -> house.take(0), house -> house.place(0), house -> house.link(0, 1), house -> house.link(0, 0),
                house -> house.unlink(0), house -> house.cut(0, 1), house -> house.cut(0, 0), house -> house.rootAt(0),
                house -> house.linked(0), house -> house.step(0), house -> house.walk(0), house -> house.passes(0),
                house -> house.value(0), house -> house.counter(0));
        throwsAll("an empty house", empty, Check.UNSUPPORTED, house -> house.splits(), house -> house.trees());
        throwsAll("an empty house", empty, Check.NO_SUCH, house -> house.badChoice(), house -> house.proof(0));
        throwsAll("an empty house", empty, Check.ARITHMETIC, house -> house.linkShare(), house -> house.meanAtoms());
        throwsAll("an empty house", empty, Check.ARGUMENT, house -> house.atom('f', false),
                house -> house.points('a', 0), house -> house.near('a', 0, 2, true), house -> house.monoid(1, 2),
                house -> house.set('a', 2));
        check.tells("roots", 0, empty, house -> house.roots());
        check.tells("cuts", 0, empty, house -> house.cuts());
        check.tells("clear", 0, empty, house -> house.clear());
        check.tells("normal", 0, empty, house -> house.normal());
        check.tells("byChoices", false, empty, house -> house.byChoices());
        check.tells("byContraction", false, empty, house -> house.byContraction());
        check.tells("byTrips", false, empty, house -> house.byTrips());
        check.tells("meaning", 1, empty, house -> house.meaning());
        check.tells("isClique", true, empty, house -> house.isClique());
        check.tells("proofs", 0, empty, house -> house.proofs());
        check.tells("checksum", 6727L, empty, house -> house.checksum());
        check.tells("isTrue", true, empty, house -> house.isTrue());
        check.same("atom", 0, new Sidelessly().atom('a', true));
        check.same("points", 2, new Sidelessly().points('e', 3));
        check.same("near", false, new Sidelessly().near('e', 1, 0, true));
        check.same("monoid", 1, new Sidelessly().monoid(3, 7));
        check.same("set", 0, new Sidelessly().set('e', 1));
    }

    private void houseWithSome() {
        Check.Recipe some = ExtremesTest::withSome;
        check.tells("roots", 4, some, house -> house.roots());
        check.tells("cuts", 1, some, house -> house.cuts());
        check.tells("byChoices", true, some, house -> house.byChoices());
        check.tells("byContraction", true, some, house -> house.byContraction());
        check.tells("byTrips", true, some, house -> house.byTrips());
        check.tells("splits", 1, some, house -> house.splits());
        check.tells("trees", 1, some, house -> house.trees());
        check.tells("meaning", 2, some, house -> house.meaning());
        check.tells("isClique", true, some, house -> house.isClique());
        check.tells("passes", 2, some, house -> house.passes(0));
        check.tells("linkShare", 1.0f, some, house -> house.linkShare());
        check.tells("meanAtoms", 4.0 / 3.0, some, house -> house.meanAtoms());
        check.tells("isTrue", true, some, house -> house.isTrue());
        check.same("clear", 4, withSome().clear());
        check.same("normal", 1, withSome().normal());
    }

    private void fullHouse() {
        Check.Recipe full = Houses::full;
        throwsAll("a full house", full, Check.STATE, house -> house.atom('b', false), house -> house.atom('d', true),
                house -> house.times(0, 1), house -> house.par(0, 1), house -> house.dual(2), house -> house.dual(59),
                house -> house.axiom(0), house -> house.axiom(2), house -> house.joinPar(0, 0, 1),
                house -> house.joinTimes(0, 0, 1, 0), house -> house.joinCut(0, 0, 1, 1), house -> house.place(0),
                house -> house.place(59));
        throwsAll("a full house", full, Check.INDEX, house -> house.kind(60), house -> house.place(60),
                house -> house.conclusions(24), house -> house.take(24), house -> house.linked(24),
                house -> house.link(24, 0), house -> house.rootAt(24), house -> house.cut(24, 0),
                house -> house.step(11), house -> house.walk(24), house -> house.value(60),
                house -> house.joinPar(24, 0, 1), house -> house.joinTimes(0, 0, 24, 0),
                house -> house.joinCut(0, 2, 1, 1), house -> house.axiom(60), house -> house.times(60, 0));
        throwsAll("a full house", full, Check.ARGUMENT, house -> house.atom('f', true),
                house -> house.joinPar(0, 1, 1), house -> house.joinTimes(1, 0, 1, 1),
                house -> house.joinCut(1, 0, 1, 1));
        throwsAll("a full house", full, Check.UNSUPPORTED, house -> house.axiom(3), house -> house.joinCut(0, 0, 1, 0),
                house -> house.link(0, 23), house -> house.cut(1, 2), house -> house.walk(1), house -> house.passes(22),
                house -> house.trees(), house -> house.proofs(), house -> house.proof(0));
        throwsAll("a full house", full, Check.NO_SUCH, house -> house.badChoice(), house -> house.part(0, true),
                house -> house.conclusion(23, 2));
        check.tells("atom", 0, full, house -> house.atom('a', false));
        check.tells("dual", 1, full, house -> house.dual(0));
        check.tells("kind of the last one", '|', full, house -> house.kind(59));
        check.tells("conclusions of the last one", 2, full, house -> house.conclusions(23));
        check.tells("roots", 24, full, house -> house.roots());
        check.tells("cuts", 11, full, house -> house.cuts());
        check.tells("byChoices", true, full, house -> house.byChoices());
        check.tells("byContraction", true, full, house -> house.byContraction());
        check.tells("byTrips", true, full, house -> house.byTrips());
        check.tells("splits", 11, full, house -> house.splits());
        check.tells("meaning", 2, full, house -> house.meaning());
        check.tells("isClique", true, full, house -> house.isClique());
        check.tells("passes", 12, full, house -> house.passes(0));
        check.tells("linkShare", 1.0f, full, house -> house.linkShare());
        check.tells("isTrue", true, full, house -> house.isTrue());
        check.same("take", 1, Houses.full().take(23));
        check.same("clear", 24, Houses.full().clear());
        check.same("normal", 11, Houses.full().normal());
        check.same("the twelfth cut", 12, Houses.full().cut(0, 23));
    }

    /** What a full house refuses leaves it as it is, though many calls are refused one behind the other. */
    private void fullHouseStays() {
        Sidelessly house = Houses.full();
        long before = house.checksum();
        for (int extreme : EXTREMES) {
            for (Method method : new Method[] {Method.TIMES, Method.JOIN_PAR, Method.JOIN_TIMES, Method.JOIN_CUT,
                Method.LINK, Method.CUT, Method.STEP, Method.PLACE, Method.TAKE, Method.MONOID}) {
                int[] numbers = method.fine.clone();
                numbers[0] = extreme;
                Check.answerOf(() -> method.call.make(house, numbers));
            }
        }
        check.same("the bench", before, house.checksum());
        check.same("the derivations", 2, house.conclusions(23));
        check.same("the monoid", 1, house.monoid(2, 0));
        check.same("the longest walk", 12, house.passes(23));
    }
}
