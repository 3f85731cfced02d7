/** Promises 1 to 7 and 45: a new object, and formulas. */
public final class FormulasTest {
    private final Check check = new Check("FormulasTest");

    public static void main(String[] args) {
        FormulasTest test = new FormulasTest();
        test.newObject();
        test.atoms();
        test.joins("times");
        test.joins("par");
        test.joinsApart();
        test.duals();
        test.dualsWithoutRoom();
        test.kinds();
        test.parts();
        test.means();
        test.check.close();
    }

    private static int join(Sidelessly house, String kind, int first, int second) {
        return kind.equals("times") ? house.times(first, second) : house.par(first, second);
    }

    private void newObject() {
        check.refuses("no formula", Check.INDEX, Sidelessly::new, house -> house.kind(0));
        check.refuses("no derivation", Check.INDEX, Sidelessly::new, house -> house.conclusions(0));
        check.refuses("no root", Check.INDEX, Sidelessly::new, house -> house.rootAt(0));
        check.refuses("no leaf", Check.INDEX, Sidelessly::new, house -> house.linked(0));
        check.tells("roots at first", 0, Sidelessly::new, house -> house.roots());
        check.tells("cuts at first", 0, Sidelessly::new, house -> house.cuts());
        check.tells("clear at first", 0, Sidelessly::new, house -> house.clear());
        check.tells("checksum at first", 7L * 31 * 31, Sidelessly::new, house -> house.checksum());
        check.tells("two objects are apart", 0, () -> {
            Houses.withAxioms(3).take(0);
            return new Sidelessly();
        }, house -> house.roots());
    }

    private void atoms() {
        Sidelessly house = new Sidelessly();
        check.same("first atom", 0, house.atom('c', true));
        check.same("second atom", 1, house.atom('c', false));
        check.same("an atom that is there", 0, house.atom('c', true));
        check.same("the lowest letter", 2, house.atom('a', false));
        check.same("the highest letter", 3, house.atom('e', true));
        for (char letter : new char[] {'`', 'f', 'A', 'E', 'z', ' ', 0, 65535}) {
            check.refuses("letter " + (int) letter, Check.ARGUMENT, Houses::withAtoms, in -> in.atom(letter, false));
            check.refuses("turned letter " + (int) letter, Check.ARGUMENT, Sidelessly::new,
                    in -> in.atom(letter, true));
        }
        Check.Recipe full = () -> withoutE(60);
        check.refuses("no room for an atom", Check.STATE, full, in -> in.atom('e', false));
        check.tells("a full house has an atom that is there", 2, full, in -> in.atom('b', false));
        check.refuses("a bad letter of a full house", Check.ARGUMENT, full, in -> in.atom('f', false));
        check.same("the 60th formula", 59, Houses.withFormulas(59).par(0, 0));
    }

    /** So many formulas, but neither plain nor turned e. */
    private static Sidelessly withoutE(int many) {
        Sidelessly house = new Sidelessly();
        for (char letter = 'a'; letter <= 'd'; letter++) {
            house.atom(letter, false);
            house.atom(letter, true);
        }
        for (int next = 8; next < many; next++) {
            house.times((next - 8) / 8, (next - 8) % 8);
        }
        return house;
    }

    private void joins(String kind) {
        Sidelessly house = Houses.withAtoms();
        check.same(kind + " of two", 10, join(house, kind, 0, 3));
        check.same(kind + " that is there", 10, join(house, kind, 0, 3));
        check.same(kind + " turned round", 11, join(house, kind, 3, 0));
        check.same(kind + " of the same", 12, join(house, kind, 5, 5));
        check.same(kind + " of joins", 13, join(house, kind, 12, 10));
        for (int bad : new int[] {-1, 10, 11, 60, Integer.MIN_VALUE, Integer.MAX_VALUE}) {
            check.refuses(kind + " first " + bad, Check.INDEX, Houses::withAtoms, in -> join(in, kind, bad, 0));
            check.refuses(kind + " second " + bad, Check.INDEX, Houses::withAtoms, in -> join(in, kind, 0, bad));
            check.refuses(kind + " both " + bad, Check.INDEX, Houses::withAtoms, in -> join(in, kind, bad, bad));
        }
        boolean isPar = kind.equals("par");
        check.same(kind + " of 12 atoms", 12, join(Houses.withChain(isPar, 11), kind, 11, 0));
        check.refuses(kind + " of 13 atoms", Check.ARGUMENT, () -> Houses.withChain(isPar, 12),
                in -> join(in, kind, 12, 0));
        check.refuses(kind + " of 1 and 12 atoms", Check.ARGUMENT, () -> Houses.withChain(isPar, 12),
                in -> join(in, kind, 0, 12));
        check.same(kind + " of 6 and 6 atoms", 7, join(Houses.withChain(isPar, 6), kind, 6, 6));
        check.refuses(kind + " of 7 and 7 atoms", Check.ARGUMENT, () -> Houses.withChain(isPar, 7),
                in -> join(in, kind, 7, 7));
        fullJoins(kind);
    }

    private void fullJoins(String kind) {
        check.refuses(kind + " without room", Check.STATE, () -> Houses.withFormulas(60), in -> join(in, kind, 59, 9));
        check.tells(kind + " that is the last of 60", 59, () -> lastOf(kind), in -> join(in, kind, 4, 9));
        check.refuses(kind + " of nothing without room", Check.INDEX, () -> Houses.withFormulas(60),
                in -> join(in, kind, 60, 0));
        check.refuses(kind + " of 13 atoms without room", Check.ARGUMENT, () -> fullWithChain(kind),
                in -> join(in, kind, 20, 0));
        check.tells(kind + " that is there without room", 20, () -> fullWithChain(kind),
                in -> join(in, kind, 19, 0));
    }

    /** The formula 20 has 12 atoms, and there are 60. */
    private static Sidelessly fullWithChain(String kind) {
        Sidelessly house = Houses.withAtoms();
        int chain = join(house, kind, 0, 0);
        for (int atoms = 2; atoms < 12; atoms++) {
            chain = join(house, kind, chain, 0);
        }
        for (int next = chain + 1; next < 60; next++) {
            join(house, kind, 1 + (next - chain) / 10, (next - chain) % 10);
        }
        return house;
    }

    /** The last one of 60 formulas is of 4 and 9, and there is none of 4 and 4, nor of 9 and 9. */
    private static Sidelessly lastOf(String kind) {
        Sidelessly house = Houses.withAtoms();
        for (int next = 10; next < 59; next++) {
            join(house, kind, (next - 10) / 9 + ((next - 10) / 9 < 4 ? 0 : 1), (next - 10) % 9);
        }
        join(house, kind, 4, 9);
        return house;
    }

    private void joinsApart() {
        Sidelessly house = Houses.withAtoms();
        check.same("times", 10, house.times(0, 2));
        check.same("par of the same parts", 11, house.par(0, 2));
        check.same("times still there", 10, house.times(0, 2));
        check.same("mixed", 12, house.times(11, 10));
    }

    private void duals() {
        Sidelessly house = new Sidelessly();
        house.atom('a', false);
        house.atom('b', true);
        check.same("par", 2, house.par(0, 1));
        check.same("dual of a par, behind its parts", 5, house.dual(2));
        check.same("kind of it", '*', house.kind(5));
        check.same("its first part", 'A', house.kind(house.part(5, false)));
        check.same("its first part comes first", 3, house.part(5, false));
        check.same("its second part", 'b', house.kind(house.part(5, true)));
        check.same("its second part comes next", 4, house.part(5, true));
        check.same("dual of the dual", 2, house.dual(5));
        check.same("dual that is there", 5, house.dual(2));
        check.same("dual of an atom", 3, house.dual(0));
        check.same("dual of a turned atom", 4, house.dual(1));
        check.same("nothing more came", 6, house.atom('e', false));
        deepDual();
        for (int bad : new int[] {-1, 10, 60, Integer.MIN_VALUE, Integer.MAX_VALUE}) {
            check.refuses("dual of " + bad, Check.INDEX, Houses::withAtoms, in -> in.dual(bad));
        }
    }

    /** In ((c*d)|(a*(b|a))) the first parts are to come first, though their numbers are higher. */
    private void deepDual() {
        Sidelessly house = new Sidelessly();
        int whole = Houses.told(house, "((c*d)|(a*(b|a)))");
        check.same("whole", 7, whole);
        check.same("dual", 15, house.dual(whole));
        String kinds = "";
        for (int formula = 8; formula <= 15; formula++) {
            kinds += house.kind(formula);
        }
        check.same("kinds in order", "CD|AB*|*", kinds);
        check.same("first part", 10, house.part(15, false));
        check.same("second part", 14, house.part(15, true));
        check.same("first part of the second one", 11, house.part(14, false));
        check.same("innermost first part", 12, house.part(13, false));
        check.same("innermost second part", 11, house.part(13, true));
        check.same("a dual is found by its parts", 13, house.times(12, 11));
        check.same("dual of a chain of 12", 23, Houses.withChain(true, 12).dual(12));
    }

    private void dualsWithoutRoom() {
        Check.Recipe tight = () -> {
            Sidelessly house = withoutE(57);
            house.atom('e', false);
            house.times(57, 0);
            return house;
        };
        check.refuses("two formulas for one place", Check.STATE, tight, house -> house.dual(58));
        Check.Recipe wide = () -> {
            Sidelessly house = withoutE(56);
            house.atom('e', false);
            house.times(56, 0);
            return house;
        };
        check.same("two formulas for two places", 59, wide.make().dual(57));
        check.refuses("no place at all", Check.STATE, () -> Houses.withFormulas(60), house -> house.dual(59));
        check.tells("an atom is there", 8, () -> Houses.withFormulas(60), house -> house.dual(9));
        check.refuses("no formula, no place", Check.INDEX, () -> Houses.withFormulas(60), house -> house.dual(60));
    }

    private void kinds() {
        Sidelessly house = Houses.withAtoms();
        house.times(0, 1);
        house.par(0, 1);
        String kinds = "";
        for (int formula = 0; formula < 12; formula++) {
            kinds += house.kind(formula);
        }
        check.same("kinds", "aAbBcCdDeE*|", kinds);
        for (int bad : new int[] {-1, 10, 60, Integer.MIN_VALUE, Integer.MAX_VALUE}) {
            check.refuses("kind of " + bad, Check.INDEX, Houses::withAtoms, in -> in.kind(bad));
        }
        check.tells("kind", 'C', Houses::withAtoms, in -> in.kind(5));
    }

    private void parts() {
        Check.Recipe recipe = () -> {
            Sidelessly house = Houses.withAtoms();
            house.times(4, 7);
            house.par(10, 3);
            return house;
        };
        check.tells("first part of times", 4, recipe, house -> house.part(10, false));
        check.tells("second part of times", 7, recipe, house -> house.part(10, true));
        check.tells("first part of par", 10, recipe, house -> house.part(11, false));
        check.tells("second part of par", 3, recipe, house -> house.part(11, true));
        check.refuses("first part of an atom", Check.NO_SUCH, recipe, house -> house.part(0, false));
        check.refuses("second part of a turned atom", Check.NO_SUCH, recipe, house -> house.part(9, true));
        for (int bad : new int[] {-1, 12, 60, Integer.MIN_VALUE, Integer.MAX_VALUE}) {
            check.refuses("part of " + bad, Check.INDEX, recipe, house -> house.part(bad, true));
        }
    }

    private void means() {
        check.refuses("mean of none", Check.ARITHMETIC, Sidelessly::new, house -> house.meanAtoms());
        check.tells("mean of atoms", 1.0, Houses::withAtoms, house -> house.meanAtoms());
        Check.Recipe recipe = () -> {
            Sidelessly house = new Sidelessly();
            Houses.told(house, "((a*b)|A)");
            return house;
        };
        check.tells("mean of five", 8.0 / 5.0, recipe, house -> house.meanAtoms());
        check.tells("mean of three", 4.0 / 3.0, () -> {
            Sidelessly house = new Sidelessly();
            Houses.told(house, "(a*b)");
            return house;
        }, house -> house.meanAtoms());
    }
}
