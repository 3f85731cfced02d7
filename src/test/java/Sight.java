/** All that can be seen of a house by calls that change nothing. */
final class Sight {
    private Sight() {
    }

    static String of(Sidelessly house) {
        StringBuilder sight = new StringBuilder();
        for (int formula = 0; add(sight, house, formula); formula++) {
            int seen = formula;
            sight.append(Check.answerOf(() -> house.part(seen, false))).append(' ');
            sight.append(Check.answerOf(() -> house.part(seen, true))).append(' ');
            sight.append(house.value(formula)).append(';');
        }
        seeDerivations(sight, house);
        seeBench(sight, house);
        return sight.toString();
    }

    private static boolean add(StringBuilder sight, Sidelessly house, int formula) {
        Object kind = Check.answerOf(() -> house.kind(formula));
        sight.append(kind).append(' ');
        return kind instanceof Character;
    }

    private static void seeDerivations(StringBuilder sight, Sidelessly house) {
        for (int derivation = 0; derivation < 25; derivation++) {
            int seen = derivation;
            Object many = Check.answerOf(() -> house.conclusions(seen));
            sight.append("\nderivation ").append(many).append(':');
            if (many instanceof Integer) {
                for (int index = 0; index < (Integer) many; index++) {
                    sight.append(' ').append(house.conclusion(derivation, index));
                }
            }
        }
    }

    private static void seeBench(StringBuilder sight, Sidelessly house) {
        sight.append("\nroots ").append(house.roots()).append(':');
        for (int root = 0; root < 50; root++) {
            int seen = root;
            sight.append(' ').append(Check.answerOf(() -> house.rootAt(seen)));
        }
        sight.append("\ncuts ").append(house.cuts()).append(':');
        for (int leaf = 0; leaf < 26; leaf++) {
            int seen = leaf;
            sight.append(' ').append(Check.answerOf(() -> house.linked(seen)));
            sight.append('/').append(Check.answerOf(() -> house.walk(seen)));
        }
        sight.append("\nmeaning ").append(Check.answerOf(house::meaning));
        sight.append(' ').append(Check.answerOf(house::isClique));
        sight.append("\nsum ").append(house.checksum());
    }
}
