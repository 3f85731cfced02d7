/** Promises 34 to 37: points, which of them are near, the meaning, and whether it is a clique. */
public final class MeaningTest {
    private final Check check = new Check("MeaningTest");

    public static void main(String[] args) {
        MeaningTest test = new MeaningTest();
        test.points();
        test.pointsRefused();
        test.near();
        test.nearRefused();
        test.meanings();
        test.meaningsRefused();
        test.cliques();
        test.bondsOfTimes();
        test.bondsOfPars();
        test.bondsOfLikeParts();
        test.bondsOfLetters();
        test.tooManyRows();
        test.check.close();
    }

    private static Check.Recipe net(String roots, int... links) {
        return () -> Houses.linking(Houses.withRoots(roots.split(" ")), links);
    }

    private void points() {
        Sidelessly house = new Sidelessly();
        for (char letter = 'a'; letter <= 'e'; letter++) {
            check.same("points at first", 2, house.points(letter, 3));
            check.same("points told", 3, house.points(letter, 1));
            check.same("points told again", 1, house.points(letter, 1));
        }
        house.points('b', 3);
        check.same("letters are apart", 1, house.points('a', 3));
        house.near('a', 0, 1, true);
        house.near('a', 1, 2, true);
        house.near('b', 1, 2, true);
        house.points('a', 3);
        check.same("all are far then", "false false false", house.near('a', 0, 1, false) + " "
                + house.near('a', 0, 2, false) + " " + house.near('a', 1, 2, false));
        check.same("those of another letter are not", true, house.near('b', 1, 2, true));
        house.near('a', 0, 1, true);
        house.points('a', 2);
        check.same("with the same point left", false, house.near('a', 0, 1, true));
    }

    private void pointsRefused() {
        Check.Recipe recipe = () -> {
            Sidelessly house = new Sidelessly();
            house.points('c', 3);
            house.near('c', 0, 2, true);
            return house;
        };
        for (int bad : new int[] {-1, 0, 4, 5, Integer.MIN_VALUE, Integer.MAX_VALUE}) {
            check.refuses("points " + bad, Check.ARGUMENT, recipe, house -> house.points('c', bad));
        }
        for (char bad : new char[] {'`', 'f', 'A', 'E', 0, 65535}) {
            check.refuses("letter " + (int) bad, Check.ARGUMENT, recipe, house -> house.points(bad, 2));
            check.refuses("near of " + (int) bad, Check.ARGUMENT, recipe, house -> house.near(bad, 0, 1, true));
        }
    }

    private void near() {
        Sidelessly house = new Sidelessly();
        for (char letter = 'a'; letter <= 'e'; letter++) {
            check.same("far at first", false, house.near(letter, 0, 1, true));
            check.same("near then", true, house.near(letter, 1, 0, false));
            check.same("far again", false, house.near(letter, 0, 1, false));
        }
        house.points('d', 3);
        int[][] pairs = {{0, 1}, {0, 2}, {1, 2}};
        for (int[] pair : pairs) {
            house.points('d', 3);
            check.same("far", false, house.near('d', pair[1], pair[0], true));
            for (int[] other : pairs) {
                boolean isSame = pair == other;
                check.same("only this pair is near", isSame, house.near('d', other[0], other[1], isSame));
                check.same("from the other side", isSame, house.near('d', other[1], other[0], isSame));
            }
        }
    }

    private void nearRefused() {
        Check.Recipe recipe = () -> {
            Sidelessly house = new Sidelessly();
            house.points('a', 3);
            house.near('a', 1, 2, true);
            house.points('b', 1);
            return house;
        };
        for (int bad : new int[] {-1, 3, 4, Integer.MIN_VALUE, Integer.MAX_VALUE}) {
            check.refuses("near " + bad, Check.ARGUMENT, recipe, house -> house.near('a', bad, 1, true));
            check.refuses("near to " + bad, Check.ARGUMENT, recipe, house -> house.near('a', 1, bad, false));
            check.refuses("near twice " + bad, Check.ARGUMENT, recipe, house -> house.near('a', bad, bad, true));
        }
        for (int same = 0; same < 3; same++) {
            int point = same;
            check.refuses("the same", Check.ARGUMENT, recipe, house -> house.near('a', point, point, true));
        }
        check.refuses("one point alone", Check.ARGUMENT, recipe, house -> house.near('b', 0, 1, true));
        check.refuses("two points at first", Check.ARGUMENT, recipe, house -> house.near('c', 0, 2, true));
    }

    private void meanings() {
        check.tells("of nothing", 1, Sidelessly::new, house -> house.meaning());
        check.tells("of an axiom", 2, net("a A", 0, 1), house -> house.meaning());
        check.tells("of two axioms", 4, net("a A (a|A)", 0, 1, 2, 3), house -> house.meaning());
        check.tells("of several letters", 1 * 2 * 3, () -> {
            Sidelessly house = net("a A b B c C", 0, 1, 2, 3, 4, 5).make();
            house.points('a', 1);
            house.points('c', 3);
            return house;
        }, house -> house.meaning());
        check.tells("of a cut, the walk alone counting", 2, () -> {
            Sidelessly house = net("a A a A", 0, 1, 2, 3).make();
            house.cut(1, 2);
            return house;
        }, house -> house.meaning());
        check.tells("of roots that are all cut", 1, () -> {
            Sidelessly house = net("a A", 0, 1).make();
            house.cut(0, 1);
            return house;
        }, house -> house.meaning());
        check.tells("of twelve links", 531441, () -> {
            Sidelessly house = Houses.withChain(true, 12);
            house.points('a', 3);
            house.place(12);
            house.place(house.dual(12));
            for (int leaf = 0; leaf < 12; leaf++) {
                house.link(leaf, 12 + leaf);
            }
            return house;
        }, house -> house.meaning());
    }

    private void meaningsRefused() {
        Check.Recipe[] open = {net("a"), net("a A"), net("a A a", 0, 1), () -> {
            Sidelessly house = net("a A a A", 0, 1).make();
            house.cut(1, 2);
            return house;
        }};
        for (Check.Recipe recipe : open) {
            check.refuses("meaning with an open leaf", Check.UNSUPPORTED, recipe, house -> house.meaning());
            check.refuses("clique with an open leaf", Check.UNSUPPORTED, recipe, house -> house.isClique());
        }
        Check.Recipe unseen = () -> {
            Sidelessly house = net("a A b B", 0, 1).make();
            house.cut(2, 3);
            return house;
        };
        check.tells("open leaves to which no token comes", 2, unseen, house -> house.meaning());
        check.tells("and the clique", true, unseen, house -> house.isClique());
    }

    private void cliques() {
        check.tells("of nothing", true, Sidelessly::new, house -> house.isClique());
        check.tells("of an axiom, far", true, net("a A", 0, 1), house -> house.isClique());
        check.tells("of an axiom, near", true, nearly("a A", 0, 1), house -> house.isClique());
        check.tells("of a ring", false, net("(a*A)", 0, 1), house -> house.isClique());
        check.tells("of a ring, near", false, nearly("(a*A)", 0, 1), house -> house.isClique());
        check.tells("of a ring with one point", true, () -> {
            Sidelessly house = net("(a*A)", 0, 1).make();
            house.points('a', 1);
            return house;
        }, house -> house.isClique());
        check.tells("of times and par", true, net("(a*b) (A|B)", 0, 2, 1, 3), house -> house.isClique());
        check.tells("of two pieces, which is no proof", true, net("a A b B", 0, 1, 2, 3), house -> house.isClique());
        check.tells("of roots that are all cut", true, () -> {
            Sidelessly house = net("(a*b) (A|B)", 0, 2, 1, 3).make();
            house.cut(0, 1);
            return house;
        }, house -> house.isClique());
        check.tells("leaves of cuts do not count", false, () -> {
            Sidelessly house = net("(a*A) a A a A", 0, 3, 2, 5, 1, 4).make();
            house.cut(1, 2);
            house.cut(3, 4);
            return house;
        }, house -> house.isClique());
    }

    private static Check.Recipe nearly(String roots, int... links) {
        return () -> {
            Sidelessly house = net(roots, links).make();
            house.near('a', 0, 1, true);
            return house;
        };
    }

    /** The points of the letters that are told are near. */
    private void isClique(String what, boolean due, String nearLetters, Check.Recipe recipe) {
        check.tells(what + ", near being <" + nearLetters + ">", due, () -> {
            Sidelessly house = recipe.make();
            for (char letter : nearLetters.toCharArray()) {
                house.near(letter, 0, 1, true);
            }
            return house;
        }, house -> house.isClique());
    }

    /** A times of near and far is far, on both sides. */
    private void bondsOfTimes() {
        Check.Recipe linkedTwice = net("(a*b) (A*B)", 0, 2, 1, 3);
        isClique("two times", true, "", linkedTwice);
        isClique("two times", true, "ab", linkedTwice);
        isClique("two times", false, "a", linkedTwice);
        isClique("two times", false, "b", linkedTwice);
        isClique("three parts", false, "ab", net("(a*(b*c)) (A*(B*C))", 0, 3, 1, 4, 2, 5));
        isClique("three parts", true, "abc", net("(a*(b*c)) (A*(B*C))", 0, 3, 1, 4, 2, 5));
    }

    private void bondsOfPars() {
        for (String near : new String[] {"", "a", "b", "ab"}) {
            isClique("par and times", true, near, net("(a|b) (A*B)", 0, 2, 1, 3));
            isClique("a par of an atom and its dual", true, near, net("(a|A)", 0, 1));
            isClique("a times of pars", false, near, net("((a|b)*(A|B))", 0, 2, 1, 3));
            isClique("two pars", true, near, net("(a|b) (A|B)", 0, 2, 1, 3));
        }
        Check.Recipe timesInPar = net("((a*b)|(A*B))", 0, 2, 1, 3);
        isClique("a par of times", true, "", timesInPar);
        isClique("a par of times", false, "a", timesInPar);
        isClique("a par of times", false, "b", timesInPar);
        isClique("a par of times", true, "ab", timesInPar);
    }

    /** c has one point, so that all rows are alike there. */
    private void bondsOfLikeParts() {
        Check.Recipe alikeInTimes = blind(net("(a*c) (A|C)", 0, 2, 1, 3));
        Check.Recipe alikeInPar = blind(net("(a|c) (A*C)", 0, 2, 1, 3));
        for (String near : new String[] {"", "a"}) {
            isClique("alike in a times", true, near, alikeInTimes);
            isClique("alike in a par", true, near, alikeInPar);
            isClique("alike is not near", false, near, blind(net("(c|c) (C*(C*(a*A)))", 0, 2, 1, 3, 4, 5)));
            isClique("nor is a times of it", false, near, blind(net("(c*c) (C|(C|(a*A)))", 0, 2, 1, 3, 4, 5)));
        }
        isClique("all alike", true, "", blind(net("(c*C)", 0, 1)));
    }

    private static Check.Recipe blind(Check.Recipe recipe) {
        return () -> {
            Sidelessly house = recipe.make();
            house.points('c', 1);
            return house;
        };
    }

    private void bondsOfLetters() {
        Check.Recipe mixed = () -> {
            Sidelessly house = net("(a*A)", 0, 1).make();
            house.points('a', 3);
            house.near('a', 0, 1, true);
            return house;
        };
        check.tells("three points, near and far", false, mixed, house -> house.isClique());
        for (int pair = 0; pair < 3; pair++) {
            int one = pair / 2;
            int other = 1 + (pair + 1) / 2;
            check.tells("an axiom with a near pair", true, () -> {
                Sidelessly house = net("a A", 0, 1).make();
                house.points('a', 3);
                house.near('a', one, other, true);
                return house;
            }, house -> house.isClique());
            check.tells("near rows fail by one far pair", false, () -> {
                Sidelessly house = net("((a|a)*(A|A))", 0, 2, 1, 3).make();
                house.points('a', 3);
                house.near('a', one, other, true);
                return house;
            }, house -> house.isClique());
        }
    }

    private void tooManyRows() {
        Check.Recipe most = () -> pairs(5, 3);
        check.tells("243 rows", 243, most, house -> house.meaning());
        check.tells("clique of 243 rows", true, most, house -> house.isClique());
        check.tells("256 rows", 256, () -> pairs(8, 2), house -> house.meaning());
        check.refuses("clique of 256 rows", Check.UNSUPPORTED, () -> pairs(8, 2), house -> house.isClique());
        check.tells("clique of 128 rows", true, () -> pairs(7, 2), house -> house.isClique());
        check.refuses("clique of 729 rows", Check.UNSUPPORTED, () -> pairs(6, 3), house -> house.isClique());
        check.tells("clique of many links with one point", true, () -> pairs(12, 1), house -> house.isClique());
        check.refuses("an open leaf behind many rows", Check.UNSUPPORTED, () -> {
            Sidelessly house = pairs(6, 3);
            house.unlink(0);
            return house;
        }, house -> house.meaning());
    }

    /** So many axioms side by side. */
    private static Sidelessly pairs(int axioms, int points) {
        Sidelessly house = new Sidelessly();
        house.atom('a', false);
        house.atom('a', true);
        house.points('a', points);
        for (int axiom = 0; axiom < axioms; axiom++) {
            house.place(0);
            house.place(1);
            house.link(2 * axiom, 2 * axiom + 1);
        }
        return house;
    }
}
