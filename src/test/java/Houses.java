/** Ways to make houses that several tests begin with. */
final class Houses {
    private Houses() {
    }

    /** The atoms a, A, b, B, .. e, E are the formulas 0 to 9. */
    static Sidelessly withAtoms() {
        Sidelessly house = new Sidelessly();
        for (char letter = 'a'; letter <= 'e'; letter++) {
            house.atom(letter, false);
            house.atom(letter, true);
        }
        return house;
    }

    /** So many formulas in all: the ten atoms, and times of two of them, from a*a (10) and a*A (11) on. */
    static Sidelessly withFormulas(int many) {
        Sidelessly house = withAtoms();
        for (int next = 10; next < many; next++) {
            house.times((next - 10) / 10, (next - 10) % 10);
        }
        return house;
    }

    /** Formulas 0 is a, 1 is A, and a chain (..(a*a)*a)..)*a with so many atoms is the last formula. */
    static Sidelessly withChain(boolean isPar, int atoms) {
        Sidelessly house = new Sidelessly();
        int chain = house.atom('a', false);
        house.atom('a', true);
        for (int next = 1; next < atoms; next++) {
            chain = isPar ? house.par(chain, 0) : house.times(chain, 0);
        }
        return house;
    }

    /** So many axioms of a, the derivations 0 and on. */
    static Sidelessly withAxioms(int many) {
        Sidelessly house = new Sidelessly();
        house.atom('a', false);
        for (int axiom = 0; axiom < many; axiom++) {
            house.axiom(0);
        }
        return house;
    }

    /** How many formulas there are, by few calls. */
    static int formulas(Sidelessly house) {
        int low = 0;
        int high = 61;
        while (low < high) {
            int middle = (low + high) / 2;
            boolean isThere = Check.answerOf(() -> house.kind(middle)) instanceof Character;
            low = isThere ? middle + 1 : low;
            high = isThere ? high : middle;
        }
        return low;
    }

    /** Tells d and joins of two and three d, and of these with others, till there are so many formulas in all. */
    static void fillFormulas(Sidelessly house, int many) {
        int left = many - formulas(house);
        int[] made = new int[64];
        made[0] = left > 0 ? house.atom('d', false) : 0;
        left = many - formulas(house);
        for (int next = 1; left > 0; next++) {
            int first = made[(next - 1) / 4];
            int second = made[(next - 1) / 2 % 2];
            made[next] = next % 2 == 1 ? house.par(first, second) : house.times(first, second);
            left--;
        }
        if (formulas(house) != many) {
            throw new IllegalStateException("a join of d was there");
        }
    }

    /** Derives axioms of an atom till there are so many derivations in all. */
    static void fillDerivations(Sidelessly house, int atom, int many) {
        int last = -1;
        while (last < many - 1) {
            last = house.axiom(atom);
        }
    }

    /**
     * The derivations 0 and 1 are axioms of a, the derivation 19 has the conclusions a, a and a times of 12 atoms;
     * there are 20. Neither (A|a) nor (a*A) is told.
     */
    static Sidelessly withLargeConclusion() {
        Sidelessly house = withAxioms(4);
        int large = house.joinTimes(2, 1, 3, 1);
        for (int pair = 0; pair < 5; pair++) {
            int alone = house.joinPar(house.axiom(0), 0, 1);
            large = house.joinTimes(large, 2, alone, 0);
        }
        return house;
    }

    /**
     * 60 formulas, 24 derivations, and on the bench 24 roots a, A, a, A .. that are linked two by two from leaf 0 on,
     * and cut two by two from root 1 on: 12 links and 11 cuts.
     */
    static Sidelessly full() {
        Sidelessly house = new Sidelessly();
        house.atom('a', false);
        house.atom('a', true);
        fillFormulas(house, 60);
        fillDerivations(house, 0, 24);
        for (int root = 0; root < 24; root++) {
            house.place(root % 2);
        }
        for (int leaf = 0; leaf < 24; leaf += 2) {
            house.link(leaf, leaf + 1);
        }
        for (int root = 1; root < 23; root += 2) {
            house.cut(root, root + 1);
        }
        return house;
    }

    /** Places formulas, each told by a text like "((a|b)*A)". */
    static Sidelessly withRoots(String... texts) {
        Sidelessly house = new Sidelessly();
        placeAll(house, texts);
        return house;
    }

    static void placeAll(Sidelessly house, String... texts) {
        for (String text : texts) {
            house.place(told(house, text));
        }
    }

    static int told(Sidelessly house, String text) {
        int[] at = {0};
        return read(house, text, at);
    }

    private static int read(Sidelessly house, String text, int[] at) {
        char sign = text.charAt(at[0]);
        at[0]++;
        if (sign != '(') {
            return house.atom(Character.toLowerCase(sign), Character.isUpperCase(sign));
        }
        int first = read(house, text, at);
        char kind = text.charAt(at[0]);
        at[0]++;
        int second = read(house, text, at);
        at[0]++;
        return kind == '*' ? house.times(first, second) : house.par(first, second);
    }

    /** Links leaves two by two. */
    static Sidelessly linking(Sidelessly house, int... leaves) {
        for (int index = 0; index + 1 < leaves.length; index += 2) {
            house.link(leaves[index], leaves[index + 1]);
        }
        return house;
    }

    /** Roots that are told by a text like "(a*b) A B", and links, two leaves each; a wrong one ends the test. */
    static Sidelessly net(String roots, int... links) {
        try {
            return linking(withRoots(roots.split(" ")), links);
        } catch (RuntimeException e) {
            throw new AssertionError("such a net can't be made: " + roots, e);
        }
    }

    /** The same house with cuts, two roots each; a wrong one ends the test. */
    static Sidelessly cutting(Sidelessly house, int... roots) {
        try {
            for (int index = 0; index + 1 < roots.length; index += 2) {
                house.cut(roots[index], roots[index + 1]);
            }
            return house;
        } catch (RuntimeException e) {
            throw new AssertionError("such a cut can't be made", e);
        }
    }
}
