/**
 * What was asked before matters not: one house that has answered all for one net answers for the next net, laid on a
 * cleared bench, what a house answers that has seen the next net alone.
 */
public final class RepeatsTest {
    /** Roots, links and cuts of nets: proofs and others, small ones and large ones. */
    private static final String[][] NETS = {
        {"", "", ""},
        {"a", "", ""},
        {"a A", "0 1", ""},
        {"a A a A", "0 1 2 3", "1 2"},
        {"a A", "0 1", "0 1"},
        {"(a*A)", "0 1", ""},
        {"(a|A)", "0 1", ""},
        {"(a*b) (A|B)", "0 2 1 3", ""},
        {"(a*b) (A|B)", "0 2 1 3", "0 1"},
        {"(a*b) (A|B)", "0 2", ""},
        {"(A|B) (a*b) (A|B) (a*b)", "0 2 1 3 4 6 5 7", "1 2"},
        {"((a*b)*(c*d)) (A|B) (C|D)", "0 4 1 5 2 6 3 7", ""},
        {"((a|b)*c) (B*C) A", "0 5 1 3 2 4", ""},
        {"((a|A)*((b|B)*((c|C)*((d|D)*(e|E)))))", "0 1 2 3 4 5 6 7 8 9", ""},
        {"b B (a*A)", "0 1 2 3", ""},
        {"((((a|A)*(b|B))*((c|C)*(d|D)))*((e|E)*(a|A)))", "0 1 2 3 4 5 6 7 8 9 10 11", ""}};

    private static final String[] FORMULAS = {"a", "E", "(a*(b*c))", "(d|E)", "(A|(a*(a*a)))", "(b|B)",
        "((a|A)*((b|B)*(c|C)))", "((a*b)*(c*d))", "((D|e)|(d|E))"};

    private final Check check = new Check("RepeatsTest");

    public static void main(String[] args) {
        RepeatsTest test = new RepeatsTest();
        test.netBehindNet();
        test.counterBehindCounter();
        test.dualBehindDual();
        test.sameCallAgain();
        test.check.close();
    }

    private static int[] numbers(String text) {
        if (text.isEmpty()) {
            return new int[0];
        }
        String[] words = text.split(" ");
        int[] numbers = new int[words.length];
        for (int index = 0; index < words.length; index++) {
            numbers[index] = Integer.parseInt(words[index]);
        }
        return numbers;
    }

    private static void lay(Sidelessly house, String[] net) {
        house.clear();
        if (!net[0].isEmpty()) {
            Houses.placeAll(house, net[0].split(" "));
        }
        Houses.linking(house, numbers(net[1]));
        int[] cuts = numbers(net[2]);
        for (int index = 0; index < cuts.length; index += 2) {
            house.cut(cuts[index], cuts[index + 1]);
        }
    }

    /** All that is asked of a net, and of its normal form; some 50 calls. */
    private static String answers(Sidelessly house) {
        StringBuilder text = new StringBuilder();
        Check.Call[] calls = {house::byChoices, house::badChoice, house::byContraction, house::byTrips, house::splits,
            house::trees, () -> house.walk(0), () -> house.passes(0), house::meaning, house::isClique, house::proofs,
            house::linkShare, house::isTrue, house::checksum, house::normal, house::isTrue, house::splits, house::trees,
            house::proofs, () -> house.proof(0), house::byTrips, house::checksum, () -> house.unlink(0), house::isTrue,
            house::byChoices, house::byContraction, house::byTrips, house::badChoice, house::meaning, house::isTrue,
            house::roots, house::clear};
        for (Check.Call call : calls) {
            text.append(Check.answerOf(call)).append(' ');
        }
        return text.toString();
    }

    /** All formulas of all nets are told first, so that they have the same numbers in each house. */
    private static Sidelessly withAllFormulas() {
        Sidelessly house = new Sidelessly();
        for (String[] net : NETS) {
            for (String root : net[0].split(" ")) {
                if (!root.isEmpty()) {
                    Houses.told(house, root);
                }
            }
        }
        return house;
    }

    private void netBehindNet() {
        for (String[] net : NETS) {
            Sidelessly fresh = withAllFormulas();
            lay(fresh, net);
            String due = answers(fresh);
            for (String[] before : NETS) {
                Sidelessly house = withAllFormulas();
                lay(house, before);
                answers(house);
                lay(house, net);
                check.same(net[0] + " behind " + before[0], due, answers(house));
            }
        }
    }

    private static Sidelessly withFormulas() {
        Sidelessly house = new Sidelessly();
        for (String formula : FORMULAS) {
            Houses.told(house, formula);
        }
        house.monoid(3, 3);
        return house;
    }

    private void counterBehindCounter() {
        for (String formula : FORMULAS) {
            for (String before : FORMULAS) {
                Sidelessly fresh = withFormulas();
                Object due = Check.answerOf(() -> fresh.counter(Houses.told(fresh, formula)));
                Sidelessly house = withFormulas();
                Check.answerOf(() -> house.counter(Houses.told(house, before)));
                house.value(Houses.told(house, before));
                house.monoid(3, 3);
                check.same("counter of " + formula + " behind " + before, due,
                        Check.answerOf(() -> house.counter(Houses.told(house, formula))));
                check.same("and what is told then", Sight.of(fresh), Sight.of(house));
            }
        }
    }

    /** The chain has seven parts without a dual; so has the atom c that comes last, and there is one place. */
    private void dualBehindDual() {
        Sidelessly house = new Sidelessly();
        int chain = Houses.told(house, "((((((a*a)*a)*a)*a)*a)*a)");
        Houses.fillFormulas(house, 58);
        int last = house.atom('c', false);
        check.same("no room for the chain", "throws IllegalStateException", Check.answerOf(() -> house.dual(chain)));
        check.same("but for the atom", 59, house.dual(last));
        check.same("and no more for the first atom", "throws IllegalStateException",
                Check.answerOf(() -> house.dual(0)));
        check.same("the dual that came", last, house.dual(59));
    }

    private void sameCallAgain() {
        for (String[] net : NETS) {
            Sidelessly house = withAllFormulas();
            lay(house, net);
            Check.Call[] calls = {house::byChoices, house::badChoice, house::byContraction, house::byTrips,
                house::splits, house::trees, house::meaning, house::isClique, house::proofs, house::isTrue,
                house::checksum, () -> house.walk(0), () -> house.passes(1), () -> house.value(2)};
            for (Check.Call call : calls) {
                Object due = Check.answerOf(call);
                for (int again = 0; again < 3; again++) {
                    check.same("asked again, of " + net[0], due, Check.answerOf(call));
                }
            }
        }
    }
}
