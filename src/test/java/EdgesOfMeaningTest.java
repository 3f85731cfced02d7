/** Promises 34 to 37, and the terms of meanings: each sentence that names a boundary, inside it and outside. */
public final class EdgesOfMeaningTest {
    private static final int[] NO_POINTS = {Integer.MIN_VALUE, -3, -2, -1, 3, 4, 5, 31, 32, Integer.MAX_VALUE};

    private final Check check = new Check("EdgesOfMeaningTest");

    public static void main(String[] args) {
        EdgesOfMeaningTest test = new EdgesOfMeaningTest();
        test.pointsAtFirst();
        test.oneToThree();
        test.lettersOfPoints();
        test.allFarThen();
        test.farAtFirst();
        test.noSuchPoint();
        test.thePointsBeingTheSame();
        test.pairsApart();
        test.rowsOfNothing();
        test.rowsOfWalks();
        test.rowsOfCuts();
        test.rowsOfAll();
        test.openLeaves();
        test.rowsOfCliques();
        test.cliquesOfFewRows();
        test.turnedAtoms();
        test.bondsOfJoins();
        test.bondsInside();
        test.bondsOfConclusions();
        test.check.close();
    }

    private static Check.Recipe net(String roots, int... links) {
        return () -> Houses.linking(Houses.withRoots(roots.split(" ")), links);
    }

    private static String answers(Check.Call call) {
        return Check.answerOf(call).toString();
    }

    private void pointsAtFirst() {
        check.sentence("Each letter has 1 to 3 points, 2 at first.");
        for (char letter = 'a'; letter <= 'e'; letter++) {
            char one = letter;
            check.same("points of " + letter, 2, new Sidelessly().points(letter, 1));
            check.same("the points 0 and 1", false, new Sidelessly().near(letter, 0, 1, true));
            check.refuses("no point 2", Check.ARGUMENT, Sidelessly::new, house -> house.near(one, 0, 2, true));
        }
    }

    private void oneToThree() {
        check.sentence("many: 1 to 3; IllegalArgumentException if .. the number is out of range");
        for (int before = 1; before <= 3; before++) {
            int had = before;
            Check.Recipe recipe = () -> {
                Sidelessly house = new Sidelessly();
                house.points('c', had);
                return house;
            };
            for (int many = -1; many <= 5; many++) {
                int told = many;
                check.answers(many + " behind " + before, many < 1 || many > 3 ? Check.ARGUMENT : Check.NOTHING, had,
                        recipe, house -> house.points('c', told));
            }
            for (int bad : new int[] {Integer.MIN_VALUE, Integer.MIN_VALUE + 2, 257, 258, Integer.MAX_VALUE}) {
                check.refuses("points " + bad, Check.ARGUMENT, recipe, house -> house.points('c', bad));
            }
        }
    }

    private void lettersOfPoints() {
        check.sentence("letter: 'a' to 'e'; IllegalArgumentException if there is no such letter");
        for (int start = 0; start < 65536; start += 128) {
            Sidelessly house = new Sidelessly();
            for (int sign = start; sign < start + 128; sign++) {
                char letter = (char) sign;
                if (letter < 'a' || letter > 'e') {
                    check.same("points of letter " + sign, "throws IllegalArgumentException",
                            answers(() -> house.points(letter, 3)));
                    check.same("near of letter " + sign, "throws IllegalArgumentException",
                            answers(() -> house.near(letter, 0, 1, true)));
                    check.same("set of letter " + sign, "throws IllegalArgumentException",
                            answers(() -> house.set(letter, 1)));
                }
            }
        }
        for (char letter : new char[] {'`', 'f', 'A', 'E', 0, 65535}) {
            check.refuses("points of " + (int) letter, Check.ARGUMENT, Sidelessly::new,
                    house -> house.points(letter, 3));
            check.refuses("near of " + (int) letter, Check.ARGUMENT, Sidelessly::new,
                    house -> house.near(letter, 0, 1, true));
        }
    }

    private void allFarThen() {
        check.sentence("Tells how many points a letter has; all of them are far then.");
        for (int many = 2; many <= 3; many++) {
            Sidelessly house = withAllNear('b');
            house.points('b', many);
            check.same("0 and 1", false, house.near('b', 0, 1, false));
            if (many == 3) {
                check.same("0 and 2", false, house.near('b', 0, 2, false));
                check.same("1 and 2", false, house.near('b', 1, 2, false));
            }
        }
        Sidelessly narrow = withAllNear('b');
        narrow.points('b', 1);
        narrow.points('b', 3);
        check.same("0 and 1, behind one point", false, narrow.near('b', 1, 0, true));
        check.same("1 and 2, behind one point", false, narrow.near('b', 2, 1, true));
        Sidelessly other = withAllNear('b');
        other.points('c', 3);
        check.same("those of another letter stay near", true, other.near('b', 0, 2, true));
    }

    private static Sidelessly withAllNear(char letter) {
        Sidelessly house = new Sidelessly();
        house.points(letter, 3);
        house.near(letter, 0, 1, true);
        house.near(letter, 0, 2, true);
        house.near(letter, 1, 2, true);
        return house;
    }

    private void farAtFirst() {
        check.sentence("Two unlike points of a letter are near or far, far at first; near: Returns whether they were.");
        for (int one = 0; one < 3; one++) {
            for (int other = 0; other < 3; other++) {
                if (one != other) {
                    Sidelessly house = new Sidelessly();
                    house.points('d', 3);
                    check.same("at first", false, house.near('d', one, other, true));
                    check.same("then", true, house.near('d', other, one, true));
                    check.same("told again", true, house.near('d', one, other, false));
                    check.same("far again", false, house.near('d', other, one, false));
                    check.same("still far", false, house.near('d', one, other, false));
                }
            }
        }
    }

    private void noSuchPoint() {
        check.sentence("a point, from 0; IllegalArgumentException if there is no such .. point");
        for (int many = 1; many <= 3; many++) {
            int points = many;
            Check.Recipe recipe = () -> {
                Sidelessly house = withAllNear('e');
                house.points('e', points);
                return house;
            };
            check.refuses("one beyond " + many, Check.ARGUMENT, recipe, house -> house.near('e', 0, points, true));
            check.refuses("one beyond " + many + ", told first", Check.ARGUMENT, recipe,
                    house -> house.near('e', points, 0, true));
            for (int bad : NO_POINTS) {
                check.refuses("point " + bad, Check.ARGUMENT, recipe, house -> house.near('e', bad, 0, true));
                check.refuses("other point " + bad, Check.ARGUMENT, recipe, house -> house.near('e', 0, bad, true));
                check.refuses("both " + bad, Check.ARGUMENT, recipe, house -> house.near('e', bad, bad, true));
                check.refuses("last point and " + bad, Check.ARGUMENT, recipe,
                        house -> house.near('e', points - 1, bad, true));
            }
            if (many > 1) {
                check.same("the last one", false, recipe.make().near('e', points - 1, 0, true));
                check.same("the last one, told second", false, recipe.make().near('e', 0, points - 1, true));
            }
        }
    }

    private void thePointsBeingTheSame() {
        check.sentence("or both are the same");
        for (int point = 0; point < 3; point++) {
            int one = point;
            check.refuses("point " + point + " twice", Check.ARGUMENT, () -> withAllNear('a'),
                    house -> house.near('a', one, one, false));
        }
    }

    private void pairsApart() {
        check.sentence("Tells whether two points are near.");
        for (int near = 0; near < 8; near++) {
            Sidelessly house = new Sidelessly();
            house.points('a', 3);
            house.near('a', 0, 1, (near & 1) != 0);
            house.near('a', 0, 2, (near & 2) != 0);
            house.near('a', 2, 1, (near & 4) != 0);
            check.same("0 and 1", (near & 1) != 0, house.near('a', 1, 0, true));
            check.same("0 and 2", (near & 2) != 0, house.near('a', 2, 0, false));
            check.same("1 and 2", (near & 4) != 0, house.near('a', 1, 2, true));
            check.same("0 and 1 then", true, house.near('a', 0, 1, true));
            check.same("0 and 2 then", false, house.near('a', 0, 2, true));
        }
    }

    private void rowsOfNothing() {
        check.sentence("The meaning is the set of all rows.");
        check.tells("an empty bench has the empty row", 1, Sidelessly::new, house -> house.meaning());
        check.tells("it is a clique", true, Sidelessly::new, house -> house.isClique());
        Check.Recipe allCut = () -> {
            Sidelessly house = net("a A", 0, 1).make();
            house.cut(0, 1);
            return house;
        };
        check.tells("without a conclusion", 1, allCut, house -> house.meaning());
        check.tells("it is a clique", true, allCut, house -> house.isClique());
    }

    /** So many axioms side by side, of the letters of a text, of which each has its number of points. */
    private static Check.Recipe axioms(String letters, int points) {
        return () -> {
            Sidelessly house = new Sidelessly();
            for (int index = 0; index < letters.length(); index++) {
                char letter = letters.charAt(index);
                house.points(letter, points);
                house.place(house.atom(letter, false));
                house.place(house.atom(letter, true));
                house.link(2 * index, 2 * index + 1);
            }
            return house;
        };
    }

    private void rowsOfWalks() {
        check.sentence("A row has a point of its letter for each leaf of a conclusion, in order, those at both ends of "
                + "a walk having the same one.");
        for (int points = 1; points <= 3; points++) {
            int due = 1;
            String letters = "";
            for (int walks = 1; walks <= 12; walks++) {
                due *= points;
                letters += "abcde".charAt(walks % 5);
                check.tells(walks + " walks of " + points + " points", due, axioms(letters, points),
                        house -> house.meaning());
            }
        }
    }

    private void rowsOfCuts() {
        check.sentence("A row has a point of its letter for each leaf of a conclusion");
        check.tells("one walk through eleven cuts", 2, Houses::full, house -> house.meaning());
        check.tells("with three points", 3, () -> {
            Sidelessly house = Houses.full();
            house.points('a', 3);
            return house;
        }, house -> house.meaning());
        check.tells("the normal form has the same one", 2, () -> {
            Sidelessly house = Houses.full();
            house.normal();
            return house;
        }, house -> house.meaning());
    }

    /** So many links of a, with two points, and so many of b, with three. */
    private static Check.Recipe mixed(int twos, int threes) {
        return () -> {
            Sidelessly house = axioms("a".repeat(twos) + "b".repeat(threes), 2).make();
            house.points('b', 3);
            return house;
        };
    }

    private void rowsOfAll() {
        check.sentence("or there are more than 243 rows");
        for (int twos = 0; twos <= 12; twos++) {
            int rows = 1 << twos;
            for (int threes = 0; twos + threes <= 12; threes++) {
                Check.Recipe recipe = mixed(twos, threes);
                check.tells("rows of " + twos + " and " + threes, rows, recipe, house -> house.meaning());
                check.answers("clique of " + rows + " rows", rows > 243 ? Check.UNSUPPORTED : Check.NOTHING, true,
                        recipe, house -> house.isClique());
                rows *= 3;
            }
        }
    }

    private void openLeaves() {
        check.sentence("Throws UnsupportedOperationException if a token comes to a leaf that is not linked");
        for (int open = 0; open < 24; open += 2) {
            int unlinked = open;
            Check.Recipe recipe = () -> {
                Sidelessly house = Houses.full();
                house.unlink(unlinked);
                return house;
            };
            check.refuses("meaning with leaf " + open + " open", Check.UNSUPPORTED, recipe, house -> house.meaning());
            check.refuses("clique with leaf " + open + " open", Check.UNSUPPORTED, recipe, house -> house.isClique());
        }
        check.refuses("one open leaf", Check.UNSUPPORTED, net("a"), house -> house.meaning());
        check.refuses("the last one of three", Check.UNSUPPORTED, net("a A b", 0, 1), house -> house.meaning());
        check.refuses("the last one of three, clique", Check.UNSUPPORTED, net("a A b", 0, 1),
                house -> house.isClique());
        check.refuses("an open leaf among many rows", Check.UNSUPPORTED, () -> {
            Sidelessly house = mixed(0, 12).make();
            house.unlink(23);
            return house;
        }, house -> house.meaning());
    }

    private void rowsOfCliques() {
        check.sentence("or there are more than 243 rows");
        check.tells("243", true, axioms("abcde", 3), house -> house.isClique());
        check.tells("243 that are none", false, threes(net("(a*A) b B c C d D e E", 0, 1, 2, 3, 4, 5, 6, 7, 8, 9)),
                house -> house.isClique());
        check.refuses("256", Check.UNSUPPORTED, axioms("abcdeabc", 2), house -> house.isClique());
        check.refuses("256 of a ring", Check.UNSUPPORTED,
                net("(a*A) a A a A a A a A a A a A a A", 0, 1, 2, 3, 4, 5, 6, 7, 8, 9, 10, 11, 12, 13, 14, 15),
                house -> house.isClique());
        check.tells("one row of twelve links", true, axioms("abcdeabcdeab", 1), house -> house.isClique());
    }

    private static Check.Recipe threes(Check.Recipe recipe) {
        return () -> {
            Sidelessly house = recipe.make();
            for (char letter = 'a'; letter <= 'e'; letter++) {
                house.points(letter, 3);
            }
            return house;
        };
    }

    private void cliquesOfFewRows() {
        check.sentence("The meaning is a clique if each two unlike rows are near for some conclusion.");
        check.tells("one row alone", true, () -> {
            Sidelessly house = net("(a*A)", 0, 1).make();
            house.points('a', 1);
            return house;
        }, house -> house.isClique());
        check.tells("two rows that are far", false, net("(a*A)", 0, 1), house -> house.isClique());
        check.tells("two rows that are near", true, net("(a|A)", 0, 1), house -> house.isClique());
        check.tells("near for one of many conclusions", true, net("a (b|B) A", 0, 3, 1, 2), house -> house.isClique());
        check.tells("a pair of rows that is far for all", false, net("(a*A) b B", 0, 1, 2, 3),
                house -> house.isClique());
        check.tells("a pair of rows that is far for all, by the last leaves", false, net("b B (a*A)", 0, 1, 2, 3),
                house -> house.isClique());
    }

    private void turnedAtoms() {
        check.sentence("far at first; for a turned atom it is the other way round");
        for (int near = 0; near < 4; near++) {
            boolean isNearA = (near & 1) != 0;
            boolean isNearB = (near & 2) != 0;
            String what = ", a near " + isNearA + ", b near " + isNearB;
            check.tells("an axiom" + what, true, told(net("a A", 0, 1), isNearA, isNearB), house -> house.isClique());
            check.tells("a turned axiom" + what, true, told(net("A a", 0, 1), isNearA, isNearB),
                    house -> house.isClique());
            check.tells("times of plain ones, times of turned ones" + what, isNearA == isNearB,
                    told(net("(a*b) (A*B)", 0, 2, 1, 3), isNearA, isNearB), house -> house.isClique());
            check.tells("times of a plain one and a turned one" + what, isNearA != isNearB,
                    told(net("(a*B) (A*b)", 0, 2, 1, 3), isNearA, isNearB), house -> house.isClique());
        }
        check.tells("nothing told", true, net("(a*b) (A*B)", 0, 2, 1, 3), house -> house.isClique());
        check.tells("nothing told", false, net("(c*D) (C*d)", 0, 2, 1, 3), house -> house.isClique());
    }

    private static Check.Recipe told(Check.Recipe recipe, boolean isNearA, boolean isNearB) {
        return () -> {
            Sidelessly house = recipe.make();
            house.near('a', 0, 1, isNearA);
            house.near('b', 1, 0, isNearB);
            return house;
        };
    }

    /** Two walks of a, which is far, and b, which is near or has one point: alike, if both rows have the same one. */
    private void bondsOfJoins() {
        check.sentence("for a times far if some part is, otherwise near if some part is; for a par near if some part "
                + "is, otherwise far if some part is");
        check.tells("a par of near and far is near", true, net("(a|A)", 0, 1), house -> house.isClique());
        check.tells("a times of near and far is far", false, net("(a*A)", 0, 1), house -> house.isClique());
        check.tells("a par of far and alike is far", false, net("((a|b)*(A|B))", 0, 2, 1, 3),
                house -> house.isClique());
        check.tells("a times of near and alike is near", true, net("((a*b)|(A*B))", 0, 2, 1, 3),
                house -> house.isClique());
        check.tells("parts that are all alike are neither", true, () -> {
            Sidelessly house = net("(b*B) (a|A)", 0, 1, 2, 3).make();
            house.points('b', 1);
            return house;
        }, house -> house.isClique());
        check.tells("nor near", false, () -> {
            Sidelessly house = net("(b|B) (a*A)", 0, 1, 2, 3).make();
            house.points('b', 1);
            return house;
        }, house -> house.isClique());
    }

    /**
     * Of rows that differ for a and c alone, the large formula has a far or alike part beside its c; they are not near
     * just if a and c are not both near or both far. What b is matters not: all other rows are near at some conclusion.
     */
    private void bondsInside() {
        check.sentence("for a times far if some part is, otherwise near if some part is; for a par near if some part "
                + "is, otherwise far if some part is; parts of parts");
        for (int near = 0; near < 8; near++) {
            boolean isNearA = (near & 1) != 0;
            boolean isNearC = (near & 4) != 0;
            String what = " in a times, near " + near;
            clique("a times at first" + what, isNearA == isNearC, near, net("((a*b)*c) (A*C) B", 0, 3, 1, 5, 2, 4));
            clique("a times, turned" + what, isNearA == isNearC, near, net("((b*a)*c) (A*C) B", 0, 5, 1, 3, 2, 4));
            clique("a times behind" + what, isNearA == isNearC, near, net("(c*(a*b)) (A*C) B", 0, 4, 1, 3, 2, 5));
            clique("a par at first" + what, isNearA == isNearC, near, net("((a|b)*c) (A*C) B", 0, 3, 1, 5, 2, 4));
            clique("a par, turned" + what, isNearA == isNearC, near, net("((b|a)*c) (A*C) B", 0, 5, 1, 3, 2, 4));
            clique("a par behind" + what, isNearA == isNearC, near, net("(c*(b|a)) (A*C) B", 0, 4, 1, 5, 2, 3));
            clique("a proof with a times in a par, near " + near, true, near,
                    net("((a*b)|c) (A|B) C", 0, 3, 1, 4, 2, 5));
            clique("a proof with a par in a times, near " + near, true, near,
                    net("((a|b)*c) (A*B) C", 0, 3, 1, 4, 2, 5));
        }
    }

    /** The bits of near tell whether the points 0 and 1 of a, of b and of c are near. */
    private void clique(String what, boolean due, int near, Check.Recipe recipe) {
        check.tells(what, due, () -> {
            Sidelessly house = recipe.make();
            for (int letter = 0; letter < 3; letter++) {
                house.near((char) ('a' + letter), 0, 1, (near >> letter & 1) == 1);
            }
            return house;
        }, house -> house.isClique());
    }

    private void bondsOfConclusions() {
        check.sentence("if each two unlike rows are near for some conclusion");
        for (int isNear = 0; isNear < 2; isNear++) {
            clique("the first root is cut, near " + isNear, true, isNear, cut(net("a A a A", 0, 3, 1, 2), 0, 1));
            clique("the second root is cut, near " + isNear, true, isNear, cut(net("a A a A", 0, 1, 2, 3), 1, 2));
            clique("what is cut is near for nothing, near " + isNear, false, isNear,
                    cut(net("(a|A) (b*B) (A*a)", 0, 1, 2, 3, 4, 5), 0, 2));
            clique("nor is it far, near " + isNear, true, isNear,
                    cut(net("(A*a) (b|B) (a|A)", 0, 1, 2, 3, 4, 5), 2, 0));
        }
    }

    private static Check.Recipe cut(Check.Recipe recipe, int one, int other) {
        return () -> {
            Sidelessly house = recipe.make();
            house.cut(one, other);
            return house;
        };
    }
}
