/** Ways to make houses that several tests begin with. */
final class Houses {
    private Houses() {
    }

    /** The atoms a, A, b, B, .. e, E are the formulas 0 to 9. */
    static Sidelessly withAtoms() {
        Sidelessly house = new Sidelessly();
        for (char letter = 'a'; letter <= 'e'; letter++) {
            house.atom(letter, false);
            house.atom(letter, true);
        }
        return house;
    }

    /** So many formulas in all: the ten atoms, and times of two of them, from a*a (10) and a*A (11) on. */
    static Sidelessly withFormulas(int many) {
        Sidelessly house = withAtoms();
        for (int next = 10; next < many; next++) {
            house.times((next - 10) / 10, (next - 10) % 10);
        }
        return house;
    }

    /** Formulas 0 is a, 1 is A, and a chain (..(a*a)*a)..)*a with so many atoms is the last formula. */
    static Sidelessly withChain(boolean isPar, int atoms) {
        Sidelessly house = new Sidelessly();
        int chain = house.atom('a', false);
        house.atom('a', true);
        for (int next = 1; next < atoms; next++) {
            chain = isPar ? house.par(chain, 0) : house.times(chain, 0);
        }
        return house;
    }

    /** So many axioms of a, the derivations 0 and on. */
    static Sidelessly withAxioms(int many) {
        Sidelessly house = new Sidelessly();
        house.atom('a', false);
        for (int axiom = 0; axiom < many; axiom++) {
            house.axiom(0);
        }
        return house;
    }

    /** Places formulas, each told by a text like "((a|b)*A)". */
    static Sidelessly withRoots(String... texts) {
        Sidelessly house = new Sidelessly();
        placeAll(house, texts);
        return house;
    }

    static void placeAll(Sidelessly house, String... texts) {
        for (String text : texts) {
            house.place(told(house, text));
        }
    }

    static int told(Sidelessly house, String text) {
        int[] at = {0};
        return read(house, text, at);
    }

    private static int read(Sidelessly house, String text, int[] at) {
        char sign = text.charAt(at[0]);
        at[0]++;
        if (sign != '(') {
            return house.atom(Character.toLowerCase(sign), Character.isUpperCase(sign));
        }
        int first = read(house, text, at);
        char kind = text.charAt(at[0]);
        at[0]++;
        int second = read(house, text, at);
        at[0]++;
        return kind == '*' ? house.times(first, second) : house.par(first, second);
    }

    /** Links leaves two by two. */
    static Sidelessly linking(Sidelessly house, int... leaves) {
        for (int index = 0; index + 1 < leaves.length; index += 2) {
            house.link(leaves[index], leaves[index + 1]);
        }
        return house;
    }
}
