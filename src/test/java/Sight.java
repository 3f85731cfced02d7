/**
 * All that can be seen of a house, in some 400 calls at most. The house is used up by that: what only changes tell,
 * as how many points a letter had, is asked last.
 */
final class Sight {
    private final StringBuilder seen = new StringBuilder();
    private final Sidelessly house;

    private Sight(Sidelessly house) {
        this.house = house;
    }

    static String of(Sidelessly house) {
        Sight sight = new Sight(house);
        sight.seeFormulas();
        sight.seeBench();
        sight.seeSpaces();
        sight.seeMonoid();
        sight.seeDerivations();
        return sight.seen.toString();
    }

    private Object see(Check.Call call) {
        Object answer = Check.answerOf(call);
        seen.append(answer).append(' ');
        return answer;
    }

    private void seeFormulas() {
        for (int formula = 0; formula < 61; formula++) {
            int one = formula;
            Object kind = see(() -> house.kind(one));
            if (!(kind instanceof Character)) {
                break;
            }
            if ((Character) kind == '*' || (Character) kind == '|') {
                see(() -> house.part(one, false));
                see(() -> house.part(one, true));
            }
        }
        see(house::meanAtoms);
    }

    private void seeBench() {
        seen.append("\nbench ");
        Object many = see(house::roots);
        int found = 0;
        for (int root = 0; root < 48 && found < (Integer) many; root++) {
            int one = root;
            found += see(() -> house.rootAt(one)) instanceof Integer ? 1 : 0;
        }
        for (int leaf = 0; leaf < 24; leaf++) {
            int one = leaf;
            see(() -> house.linked(one));
            see(() -> house.walk(one));
        }
        see(house::cuts);
        see(house::meaning);
        see(house::isClique);
        see(house::checksum);
    }

    private void seeSpaces() {
        seen.append("\nspaces ");
        for (char letter = 'a'; letter <= 'e'; letter++) {
            char one = letter;
            see(() -> house.near(one, 0, 1, false));
            see(() -> house.near(one, 0, 2, false));
            see(() -> house.near(one, 1, 2, false));
            see(() -> house.points(one, 2));
        }
    }

    private void seeMonoid() {
        seen.append("\nmonoid ");
        for (int formula = 0; formula < 20; formula++) {
            int one = formula;
            if (!(see(() -> house.value(one)) instanceof Integer)) {
                break;
            }
        }
        for (char letter = 'a'; letter <= 'e'; letter++) {
            char one = letter;
            see(() -> house.set(one, 0));
        }
        see(() -> house.monoid(1, 0));
    }

    private void seeDerivations() {
        for (int derivation = 0; derivation < 25; derivation++) {
            seen.append("\nderivation ");
            int one = derivation;
            Object many = see(() -> house.conclusions(one));
            if (!(many instanceof Integer)) {
                break;
            }
            for (int index = 0; index < (Integer) many; index++) {
                int seenIndex = index;
                see(() -> house.conclusion(one, seenIndex));
            }
        }
        for (int derivation = 0; derivation < 24; derivation++) {
            int one = derivation;
            see(() -> house.joinPar(one, 0, 1));
        }
    }
}
