/**
 * All that can be seen of a house, in some 400 calls at most. The house is used up by that: what only changes tell,
 * as how many points a letter had, is asked last.
 */
final class Sight {
    private static final int FORMULAS_WITH_PARTS = 10;
    private static final int FORMULAS_WITH_VALUES = 10;

    private final StringBuilder seen = new StringBuilder();
    private final Sidelessly house;

    private Sight(Sidelessly house) {
        this.house = house;
    }

    static String of(Sidelessly house) {
        Sight sight = new Sight(house);
        sight.seeFormulas();
        sight.seeBench();
        sight.seeSpaces();
        sight.seeMonoid();
        sight.seeDerivations();
        return sight.seen.toString();
    }

    private Object see(Check.Call call) {
        Object answer = Check.answerOf(call);
        seen.append(answer).append(' ');
        return answer;
    }

    /** The kinds of all, and the parts of the last ones: a call that goes wrong half way leaves its own ones behind. */
    private void seeFormulas() {
        int many = 0;
        while (many < 61) {
            int one = many;
            if (!(see(() -> house.kind(one)) instanceof Character)) {
                break;
            }
            many++;
        }
        for (int formula = Math.max(0, many - FORMULAS_WITH_PARTS); formula < many; formula++) {
            int one = formula;
            see(() -> house.part(one, false));
            see(() -> house.part(one, true));
        }
        see(house::meanAtoms);
    }

    private void seeBench() {
        seen.append("\nbench ");
        Object many = see(house::roots);
        int found = 0;
        for (int root = 0; root < 48 && found < (Integer) many; root++) {
            int one = root;
            found += see(() -> house.rootAt(one)) instanceof Integer ? 1 : 0;
        }
        for (int leaf = 0; leaf < 24; leaf++) {
            int one = leaf;
            see(() -> house.linked(one));
            see(() -> house.walk(one));
        }
        see(house::cuts);
        see(house::meaning);
        see(house::isClique);
        see(house::checksum);
        seeNextOfBench();
    }

    /** Which cut is the first one, which number a root gets that comes now, and how many leaves have come. */
    private void seeNextOfBench() {
        see(() -> house.step(0));
        see(house::checksum);
        see(() -> house.place(0));
        see(house::clear);
    }

    private void seeSpaces() {
        seen.append("\nspaces ");
        for (char letter = 'a'; letter <= 'e'; letter++) {
            char one = letter;
            see(() -> house.near(one, 0, 1, false));
            see(() -> house.near(one, 0, 2, false));
            see(() -> house.near(one, 1, 2, false));
            see(() -> house.points(one, 2));
        }
    }

    /** With the set of the number 0 alone for each letter the value of a turned atom is the pole. */
    private void seeMonoid() {
        seen.append("\nmonoid ");
        seeValues();
        for (char letter = 'a'; letter <= 'e'; letter++) {
            char one = letter;
            see(() -> house.set(one, 1));
        }
        seeValues();
        see(() -> house.value(house.atom('a', true)));
        see(() -> house.monoid(1, 0));
    }

    private void seeValues() {
        for (int formula = 0; formula < FORMULAS_WITH_VALUES; formula++) {
            int one = formula;
            if (!(see(() -> house.value(one)) instanceof Integer)) {
                break;
            }
        }
    }

    private void seeDerivations() {
        int many = 0;
        boolean[] isSingle = new boolean[24];
        while (many < 24) {
            seen.append("\nderivation ");
            int one = many;
            Object conclusions = see(() -> house.conclusions(one));
            if (!(conclusions instanceof Integer)) {
                break;
            }
            isSingle[many] = (Integer) conclusions == 1;
            for (int index = 0; index < (Integer) conclusions; index++) {
                int seenIndex = index;
                see(() -> house.conclusion(one, seenIndex));
            }
            many++;
        }
        seeWhichAreUsed(many, isSingle);
    }

    /** One conclusion alone is no atom, so that a cut with an axiom is refused at any rate, if used or not. */
    private void seeWhichAreUsed(int many, boolean[] isSingle) {
        Object axiom = see(() -> house.axiom(0));
        int partner = axiom instanceof Integer ? (Integer) axiom : many - 1;
        for (int derivation = 0; derivation < many; derivation++) {
            int one = derivation;
            if (isSingle[one]) {
                see(() -> house.joinCut(partner, 0, one, 0));
            }
        }
        for (int derivation = 0; derivation < many; derivation++) {
            int one = derivation;
            if (!isSingle[one]) {
                see(() -> house.joinPar(one, 0, 1));
            }
        }
    }
}
