import java.util.ArrayList;
import java.util.List;
import java.util.Map;
import java.util.TreeMap;

/** Long mixed runs of calls on a house and on the oracle, each answer of both being the same. */
public final class OracleTest {
    private static final String SMALL_LETTERS = "aaaaab";
    private static final String ALL_LETTERS = "abcdef`A";

    private final Check check = new Check("OracleTest");
    private final Map<String, Integer> answered = new TreeMap<>();
    private long seed = 20261119;
    private Sidelessly house;
    private Oracle oracle;
    private boolean isStrange;
    private int callsMade;

    public static void main(String[] args) {
        OracleTest test = new OracleTest();
        int runs = args.length > 0 ? Integer.parseInt(args[0]) : 900;
        if (args.length > 1) {
            test.seed = Long.parseLong(args[1]);
        }
        for (int run = 0; run < runs; run++) {
            test.run(run);
        }
        if (args.length > 2) {
            System.out.println(test.answered);
        }
        test.check.close();
    }

    private int roll(int sides) {
        seed = seed * 6364136223846793005L + 1442695040888963407L;
        return sides < 1 ? 0 : (int) ((seed >>> 33) % sides);
    }

    private boolean isOneOf(int sides) {
        return roll(sides) == 0;
    }

    /** A number that is mostly below the bound, and now and then not. */
    private int number(int bound) {
        if (isStrange && isOneOf(12)) {
            int[] strange = {-1, bound, bound + 1, 1000000, Integer.MIN_VALUE, Integer.MAX_VALUE};
            return strange[roll(strange.length)];
        }
        return roll(bound);
    }

    private char letter() {
        return isStrange && isOneOf(4) ? ALL_LETTERS.charAt(roll(8)) : SMALL_LETTERS.charAt(roll(6));
    }

    /** Beyond 512 calls of one house nothing is promised. */
    private void both(String call, Check.Call ofHouse, Check.Call ofOracle) {
        if (callsMade >= 512) {
            return;
        }
        callsMade++;
        Object due = Check.answerOf(ofOracle);
        Object got = Check.answerOf(ofHouse);
        check.same(call, due, got);
        String name = call.substring(0, call.indexOf('('));
        String key = due instanceof Boolean || due.toString().startsWith("throws") ? due.toString() : "a number";
        answered.merge(name + " " + key, 1, Integer::sum);
    }

    private void run(int run) {
        house = new Sidelessly();
        oracle = new Oracle();
        isStrange = run % 3 == 0;
        callsMade = 0;
        for (int round = 0; round < 24 && callsMade < 512; round++) {
            int sort = run % 5;
            if (sort == 0) {
                tellFormula();
                bench();
            } else if (sort == 1) {
                derive();
            } else if (sort == 2) {
                layBalanced();
                bench();
                if (isOneOf(3)) {
                    meanings();
                    linkAll();
                    both("isClique()", () -> house.isClique(), () -> oracle.isClique());
                }
            } else if (sort == 3) {
                derive();
                tellFormula();
                meanings();
            } else {
                tellFormula();
                tellFormula();
                tellFormula();
                derive();
            }
            look();
        }
        both("isTrue()", () -> house.isTrue(), () -> true);
    }

    private void tellFormula() {
        char letter = letter();
        boolean isTurned = isOneOf(2);
        if (isOneOf(3) || oracle.formulas.isEmpty()) {
            both("atom(" + letter + ", " + isTurned + ")", () -> house.atom(letter, isTurned),
                    () -> oracle.atom(letter, isTurned));
        }
        int first = number(oracle.formulas.size());
        int second = number(oracle.formulas.size());
        switch (roll(4)) {
            case 0 -> both("times(" + first + ", " + second + ")", () -> house.times(first, second),
                    () -> oracle.join('*', first, second));
            case 1 -> both("par(" + first + ", " + second + ")", () -> house.par(first, second),
                    () -> oracle.join('|', first, second));
            case 2 -> both("dual(" + first + ")", () -> house.dual(first), () -> oracle.dual(first));
            default -> {
                both("kind(" + first + ")", () -> house.kind(first), () -> oracle.kind(first));
                both("part(" + first + ")", () -> house.part(first, isTurned), () -> oracle.part(first, isTurned));
            }
        }
        both("meanAtoms()", () -> house.meanAtoms(), () -> oracle.meanAtoms());
    }

    private int unused() {
        int derivation = number(oracle.derivations.size());
        for (int tries = 0; tries < 6; tries++) {
            if (derivation < 0 || derivation >= oracle.derivations.size()
                    || !oracle.derivations.get(derivation).isUsed) {
                return derivation;
            }
            derivation = number(oracle.derivations.size());
        }
        return derivation;
    }

    private int conclusionOf(int derivation) {
        boolean isThere = derivation >= 0 && derivation < oracle.derivations.size();
        return number(isThere ? oracle.derivations.get(derivation).conclusions.size() : 2);
    }

    private void derive() {
        if (oracle.derivations.size() >= 24 && !isOneOf(20)) {
            takeOne();
            bench();
            return;
        }
        if (oracle.formulas.isEmpty() || isOneOf(9)) {
            char letter = letter();
            both("atom(" + letter + ")", () -> house.atom(letter, false), () -> oracle.atom(letter, false));
        }
        int one = unused();
        int other = isOneOf(12) ? one : unused();
        int first = conclusionOf(one);
        int second = conclusionOf(other);
        int choice = roll(10);
        if (choice < 3) {
            int atom = isOneOf(5) ? number(oracle.formulas.size()) : roll(2);
            both("axiom(" + atom + ")", () -> house.axiom(atom), () -> oracle.axiom(atom));
        } else if (choice < 5) {
            int secondOfOne = conclusionOf(one);
            both("joinPar(" + one + ", " + first + ", " + secondOfOne + ")",
                    () -> house.joinPar(one, first, secondOfOne), () -> oracle.joinPar(one, first, secondOfOne));
        } else if (choice < 7) {
            both("joinTimes(" + one + ", " + first + ", " + other + ", " + second + ")",
                    () -> house.joinTimes(one, first, other, second),
                    () -> oracle.joinTwo(false, one, first, other, second));
        } else {
            cutSome(one, other);
        }
        if (isOneOf(5)) {
            takeOne();
            bench();
        }
        seeDerivation();
    }

    /** Mostly cuts two conclusions that are dual, since a random pair is seldom so. */
    private void cutSome(int one, int other) {
        List<int[]> fine = new ArrayList<>();
        for (int left = 0; left < oracle.derivations.size(); left++) {
            for (int right = 0; right < oracle.derivations.size(); right++) {
                if (left != right && !oracle.derivations.get(left).isUsed && !oracle.derivations.get(right).isUsed) {
                    addDuals(fine, left, right);
                }
            }
        }
        int[] chosen = {one, conclusionOf(one), other, conclusionOf(other)};
        if (!fine.isEmpty() && !isOneOf(4)) {
            chosen = fine.get(roll(fine.size()));
        }
        int[] cut = chosen;
        both("joinCut(" + cut[0] + ", " + cut[1] + ", " + cut[2] + ", " + cut[3] + ")",
                () -> house.joinCut(cut[0], cut[1], cut[2], cut[3]),
                () -> oracle.joinTwo(true, cut[0], cut[1], cut[2], cut[3]));
    }

    private void addDuals(List<int[]> fine, int left, int right) {
        List<Oracle.Occurrence> ofLeft = oracle.derivations.get(left).conclusions;
        List<Oracle.Occurrence> ofRight = oracle.derivations.get(right).conclusions;
        for (int one = 0; one < ofLeft.size(); one++) {
            for (int other = 0; other < ofRight.size(); other++) {
                if (ofLeft.get(one).formula.isDualOf(ofRight.get(other).formula)) {
                    fine.add(new int[] {left, one, right, other});
                }
            }
        }
    }

    private void seeDerivation() {
        int derivation = number(oracle.derivations.size());
        int index = conclusionOf(derivation);
        both("conclusions(" + derivation + ")", () -> house.conclusions(derivation),
                () -> oracle.conclusions(derivation));
        both("conclusion(" + derivation + ", " + index + ")", () -> house.conclusion(derivation, index),
                () -> oracle.conclusion(derivation, index));
    }

    private void takeOne() {
        int last = oracle.derivations.size() - 1;
        int derivation = isOneOf(3) ? number(last + 1) : last;
        both("take(" + derivation + ")", () -> house.take(derivation), () -> oracle.take(derivation));
        look();
        for (int steps = roll(8); steps > 0 && !oracle.cuts.isEmpty(); steps--) {
            int cut = number(oracle.cuts.size());
            both("step(" + cut + ")", () -> house.step(cut), () -> oracle.step(cut));
            look();
        }
    }

    /** Lays some formulas and their duals, so that many nets can be linked through. */
    private void layBalanced() {
        if (oracle.formulas.size() < 12) {
            tellFormula();
        }
        if (oracle.formulas.isEmpty()) {
            return;
        }
        if (oracle.leavesCome > 8 && isOneOf(3)) {
            both("clear()", () -> house.clear(), () -> oracle.clear());
        }
        int formula = number(oracle.formulas.size());
        if (isOneOf(2)) {
            both("dual(" + formula + ")", () -> house.dual(formula), () -> oracle.dual(formula));
        }
        both("place(" + formula + ")", () -> house.place(formula), () -> oracle.place(formula));
        if (formula >= 0 && formula < oracle.formulas.size()) {
            String dual = oracle.formulas.get(formula).dual().text;
            for (int other = 0; other < oracle.formulas.size(); other++) {
                int laid = other;
                if (oracle.formulas.get(other).text.equals(dual)) {
                    both("place(" + other + ")", () -> house.place(laid), () -> oracle.place(laid));
                }
            }
        }
        if (isOneOf(2)) {
            int index = number(3);
            both("proof(" + index + ")", () -> house.proof(index), () -> oracle.proof(index));
        }
    }

    private void bench() {
        for (int turn = 0; turn < 3; turn++) {
            changeBench();
        }
        if (isOneOf(3)) {
            linkAll();
        }
    }

    private void linkAll() {
        List<Integer> left = new ArrayList<>(oracle.leaves.keySet());
        for (int one : left) {
            for (int tries = 0; tries < 6; tries++) {
                int other = left.get(roll(left.size()));
                if (!oracle.links.containsKey(one) && !oracle.links.containsKey(other)
                        && oracle.leaves.get(one).isDualOf(oracle.leaves.get(other))) {
                    both("link(" + one + ", " + other + ")", () -> house.link(one, other),
                            () -> oracle.link(one, other));
                }
            }
        }
    }

    private void changeBench() {
        int one = number(oracle.leavesCome);
        int other = number(oracle.leavesCome);
        int root = number(oracle.rootsCome);
        int otherRoot = number(oracle.rootsCome);
        int formula = number(oracle.formulas.size());
        int cut = number(oracle.cuts.size());
        switch (roll(11)) {
            case 0 -> both("place(" + formula + ")", () -> house.place(formula), () -> oracle.place(formula));
            case 1, 2 -> both("link(" + one + ", " + other + ")", () -> house.link(one, other),
                    () -> oracle.link(one, other));
            case 3 -> both("unlink(" + one + ")", () -> house.unlink(one), () -> oracle.unlink(one));
            case 4, 5 -> both("cut(" + root + ", " + otherRoot + ")", () -> house.cut(root, otherRoot),
                    () -> oracle.cut(root, otherRoot));
            case 6, 7 -> both("step(" + cut + ")", () -> house.step(cut), () -> oracle.step(cut));
            case 8 -> both("normal()", () -> house.normal(), () -> oracle.normal());
            case 9 -> {
                int index = number(3);
                both("proof(" + index + ")", () -> house.proof(index), () -> oracle.proof(index));
            }
            default -> {
                if (isOneOf(3)) {
                    both("clear()", () -> house.clear(), () -> oracle.clear());
                }
            }
        }
    }

    private void meanings() {
        char letter = letter();
        int many = isStrange ? number(4) : 1 + roll(3);
        int one = number(3);
        int other = number(3);
        boolean is = isOneOf(2);
        int size = isStrange ? number(4) : 1 + roll(3);
        int pole = number(1 << Math.max(0, Math.min(3, size)));
        int numbers = number(1 << oracle.size);
        int formula = number(oracle.formulas.size());
        switch (roll(6)) {
            case 0 -> both("points(" + letter + ", " + many + ")", () -> house.points(letter, many),
                    () -> oracle.points(letter, many));
            case 1, 2 -> both("near(" + letter + ", " + one + ", " + other + ", " + is + ")",
                    () -> house.near(letter, one, other, is), () -> oracle.near(letter, one, other, is));
            case 3 -> both("monoid(" + size + ", " + pole + ")", () -> house.monoid(size, pole),
                    () -> oracle.monoid(size, pole));
            case 4 -> both("set(" + letter + ", " + numbers + ")", () -> house.set(letter, numbers),
                    () -> oracle.set(letter, numbers));
            default -> both("counter(" + formula + ")", () -> house.counter(formula), () -> oracle.counter(formula));
        }
        both("value(" + formula + ")", () -> house.value(formula), () -> oracle.value(formula));
    }

    private void look() {
        int leaf = number(oracle.leavesCome);
        int root = number(oracle.rootsCome);
        both("roots()", () -> house.roots(), () -> oracle.roots.size());
        both("cuts()", () -> house.cuts(), () -> oracle.cuts.size());
        both("rootAt(" + root + ")", () -> house.rootAt(root), () -> oracle.rootAt(root));
        both("linked(" + leaf + ")", () -> house.linked(leaf), () -> oracle.linked(leaf));
        both("walk(" + leaf + ")", () -> house.walk(leaf), () -> oracle.walk(leaf)[0]);
        both("passes(" + leaf + ")", () -> house.passes(leaf), () -> oracle.walk(leaf)[1]);
        both("linkShare()", () -> house.linkShare(), () -> oracle.linkShare());
        both("byContraction()", () -> house.byContraction(), () -> oracle.byContraction());
        both("splits()", () -> house.splits(), () -> oracle.splits());
        both("checksum()", () -> house.checksum(), () -> oracle.checksum());
        int pars = 0;
        for (Oracle.Root one : oracle.roots.values()) {
            pars += (int) one.formula.text.chars().filter(sign -> sign == '|').count();
        }
        if (pars < 5 || pars > 10 || isOneOf(30)) {
            both("byChoices()", () -> house.byChoices(), () -> oracle.byChoices());
            both("badChoice()", () -> house.badChoice(), () -> oracle.badChoice());
        }
        lookAtDearOnes();
    }

    private void lookAtDearOnes() {
        switch (roll(6)) {
            case 0 -> both("byTrips()", () -> house.byTrips(), () -> oracle.byTrips());
            case 1 -> both("trees()", () -> house.trees(), () -> oracle.trees());
            case 2 -> both("meaning()", () -> house.meaning(), () -> oracle.meaning());
            case 3 -> both("isClique()", () -> house.isClique(), () -> oracle.isClique());
            case 4 -> both("proofs()", () -> house.proofs(), () -> oracle.proofs());
            default -> {
                both("isTrue()", () -> house.isTrue(), () -> true);
            }
        }
    }
}
