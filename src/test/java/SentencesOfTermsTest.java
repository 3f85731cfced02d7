/** 'What it is', and each sentence of 'Terms', in the order of the document. */
public final class SentencesOfTermsTest {
    private final Sentences document = new Sentences("SentencesOfTermsTest");

    public static void main(String[] args) {
        SentencesOfTermsTest test = new SentencesOfTermsTest();
        test.whatItIs();
        test.formulas();
        test.derivations();
        test.bench();
        test.taking();
        test.proofs();
        test.choices();
        test.contraction();
        test.trips();
        test.trees();
        test.cuts();
        test.walks();
        test.meanings();
        test.cliques();
        test.monoids();
        test.exceptions();
        test.examples();
        test.document.close(name -> name.equals("What it is") || name.startsWith("Terms"));
    }

    private void is(Object due, Check.Call call) {
        document.is(due, call);
    }

    private static Sidelessly net(String roots, int... links) {
        return Houses.net(roots, links);
    }

    private static Sidelessly cutting(Sidelessly house, int... roots) {
        return Houses.cutting(house, roots);
    }

    private void whatItIs() {
        document.in("What it is");
        document.says("Proofs without sides: formulas in which each thing is used just once, derivations by rules that "
                + "use up what they join, nets of links on a bench, three tests whether a net is a proof, the ways "
                + "to read it as a tree, cuts that vanish step by step in any order, tokens that walk instead, what "
                + "a proof means as rows of points, cliques, small monoids with a pole in which formulas hold or "
                + "not, and a search for all proofs.");
        Sidelessly first = new Sidelessly();
        Sidelessly second = new Sidelessly();
        for (Sidelessly house : new Sidelessly[] {first, second}) {
            int a = house.atom('a', false);
            int all = house.joinCut(house.axiom(a), 1, house.joinCut(house.axiom(a), 1, house.axiom(a), 0), 0);
            house.take(all);
        }
        is('a', () -> first.step(0));
        is('a', () -> first.step(0));
        is('a', () -> second.step(1));
        is('a', () -> second.step(0));
        is(first.linked(0), () -> second.linked(0));
        is(first.checksum(), second::checksum);
        document.says("An object is used for at most 512 calls after it has been made; what later calls answer is "
                + "free.");
        Sidelessly house = new Sidelessly();
        for (int call = 1; call < 512; call++) {
            house.atom((char) ('a' + call % 5), call % 2 == 0);
        }
        is(1.0, house::meanAtoms);
    }

    private void formulas() {
        document.in("Terms, Formulas");
        document.says("There are the atoms 'a' to 'e', each plain or turned, and of two formulas the formula with "
                + "both, 'times', and with one through the other, 'par'.");
        Sidelessly house = new Sidelessly();
        String letters = "aAbBcCdDeE";
        for (int index = 0; index < 10; index++) {
            char letter = letters.charAt(index);
            boolean isTurned = letter < 'a';
            is(index, () -> house.atom(Character.toLowerCase(letter), isTurned));
        }
        for (int index = 0; index < 10; index++) {
            int atom = index;
            is(letters.charAt(index), () -> house.kind(atom));
        }
        is(Sentences.ARGUMENT, () -> house.atom('f', false));
        is(Sentences.ARGUMENT, () -> house.atom('`', true));
        is(Sentences.ARGUMENT, () -> house.atom('A', false));
        is(10, () -> house.times(0, 3));
        is(11, () -> house.par(0, 3));
        is('*', () -> house.kind(10));
        is('|', () -> house.kind(11));
        is("0 3 0 3", () -> house.part(10, false) + " " + house.part(10, true) + " " + house.part(11, false) + " "
                + house.part(11, true));
        document.says("At most 60 are numbered from 0; one that is there is not added anew.");
        Sidelessly many = Houses.withFormulas(59);
        is(59, () -> many.times(4, 9));
        is(Sentences.STATE, () -> many.par(0, 0));
        is(Sentences.INDEX, () -> many.kind(60));
        is(59, () -> many.times(4, 9));
        is(0, () -> many.atom('a', false));
        is(1, () -> many.dual(0));
        document.says("The dual of an atom is the one turned about; that of a times of two is the par of both duals, "
                + "of a par the times, in the same order.");
        Sidelessly duals = new Sidelessly();
        is(0, () -> duals.atom('a', false));
        is(1, () -> duals.dual(0));
        is('A', () -> duals.kind(1));
        is(2, () -> duals.atom('b', true));
        is(3, () -> duals.dual(2));
        is('b', () -> duals.kind(3));
        is(4, () -> duals.times(0, 2));
        is(5, () -> duals.dual(4));
        is("| 1 3", () -> duals.kind(5) + " " + duals.part(5, false) + " " + duals.part(5, true));
        is(4, () -> duals.dual(5));
        is(6, () -> duals.par(4, 0));
        is(7, () -> duals.dual(6));
        is("* 5 1", () -> duals.kind(7) + " " + duals.part(7, false) + " " + duals.part(7, true));
    }

    /** The conclusions of a derivation, as numbers of formulas. */
    private static String conclusions(Sidelessly house, int derivation) {
        StringBuilder seen = new StringBuilder();
        for (int index = 0; index < house.conclusions(derivation); index++) {
            seen.append(index == 0 ? "" : " ").append(house.conclusion(derivation, index));
        }
        return seen.toString();
    }

    /** Formulas a, A, b, B, c, C, d, D; axioms of a, b, c and d, the derivations 0 to 3. */
    private static Sidelessly withFourAxioms() {
        Sidelessly house = new Sidelessly();
        for (char letter = 'a'; letter <= 'd'; letter++) {
            house.axiom(house.atom(letter, false));
        }
        return house;
    }

    private void derivations() {
        document.in("Terms, Derivations");
        document.says("At most 24 are numbered from 0.");
        Sidelessly many = new Sidelessly();
        many.atom('a', false);
        for (int next = 0; next < 24; next++) {
            is(next, () -> many.axiom(0));
        }
        is(Sentences.STATE, () -> many.axiom(0));
        is(Sentences.STATE, () -> many.joinPar(0, 0, 1));
        is(Sentences.STATE, () -> many.joinCut(0, 0, 1, 1));
        is(Sentences.STATE, () -> many.joinTimes(0, 0, 1, 1));
        document.says("One by an axiom has two conclusions, an atom and its dual.");
        Sidelessly axiom = new Sidelessly();
        is(0, () -> axiom.atom('b', true));
        is(0, () -> axiom.axiom(0));
        is("0 1", () -> conclusions(axiom, 0));
        is('b', () -> axiom.kind(1));
        is(1, () -> axiom.axiom(1));
        is("1 0", () -> conclusions(axiom, 1));
        document.says("Joining two conclusions of one by par takes both away and adds their par at the end.");
        Sidelessly par = withFourAxioms();
        is(4, () -> par.joinTimes(0, 0, 1, 0));
        is(5, () -> par.joinTimes(4, 0, 2, 0));
        is("3 8 5 9", () -> conclusions(par, 5));
        is(6, () -> par.joinPar(5, 2, 0));
        is("8 9 10", () -> conclusions(par, 6));
        is("| 5 3", () -> par.kind(10) + " " + par.part(10, false) + " " + par.part(10, true));
        is(7, () -> par.joinPar(6, 0, 1));
        is("10 11", () -> conclusions(par, 7));
        is("| 8 9", () -> par.kind(11) + " " + par.part(11, false) + " " + par.part(11, true));
        document.says("Joining one of a derivation and one of another one by times leaves the others of the first one, "
                + "then those of the second one, and adds the times at the end; by a cut it leaves the others alone, "
                + "if both are dual.");
        Sidelessly joined = withFourAxioms();
        is(4, () -> joined.joinTimes(0, 1, 1, 0));
        is("0 3 8", () -> conclusions(joined, 4));
        is("* 1 2", () -> joined.kind(8) + " " + joined.part(8, false) + " " + joined.part(8, true));
        is(5, () -> joined.joinTimes(3, 0, 2, 0));
        is("7 5 9", () -> conclusions(joined, 5));
        is("* 6 4", () -> joined.kind(9) + " " + joined.part(9, false) + " " + joined.part(9, true));
        is(6, () -> joined.joinTimes(5, 1, 4, 1));
        is("7 9 0 8 10", () -> conclusions(joined, 6));
        is("* 5 3", () -> joined.kind(10) + " " + joined.part(10, false) + " " + joined.part(10, true));
        is(7, () -> joined.axiom(6));
        is(Sentences.UNSUPPORTED, () -> joined.joinCut(6, 0, 7, 1));
        is(8, () -> joined.joinCut(7, 0, 6, 0));
        is("7 9 0 8 10", () -> conclusions(joined, 8));
        document.says("What is joined is used, once for all, and a new derivation comes.");
        Sidelessly used = withFourAxioms();
        is(4, () -> used.joinPar(0, 0, 1));
        is(Sentences.NO_SUCH, () -> used.joinPar(0, 0, 1));
        is(Sentences.NO_SUCH, () -> used.joinTimes(1, 0, 0, 0));
        is(5, () -> used.joinTimes(1, 0, 2, 0));
        is(Sentences.NO_SUCH, () -> used.joinPar(1, 0, 1));
        is(Sentences.NO_SUCH, () -> used.joinPar(2, 0, 1));
        is(6, () -> used.axiom(6));
        is(7, () -> used.joinCut(3, 1, 6, 0));
        is(Sentences.NO_SUCH, () -> used.joinPar(3, 0, 1));
        is(Sentences.NO_SUCH, () -> used.joinPar(6, 0, 1));
        is(4, () -> used.take(7) + used.take(1) + used.take(0));
        is(Sentences.NO_SUCH, () -> used.joinPar(0, 0, 1));
        is(8, () -> used.joinPar(7, 0, 1));
    }

    private void bench() {
        document.in("Terms, The bench");
        document.says("It has roots, formulas that stand there, numbered from 0 as they come; each has its atoms as "
                + "leaves, numbered from 0 as they come, from the first part to the second one.");
        Sidelessly house = new Sidelessly();
        int first = Houses.told(house, "((a*B)|c)");
        int second = Houses.told(house, "C");
        int third = Houses.told(house, "(A|b)");
        is(0, () -> house.place(first));
        is(1, () -> house.place(second));
        is(2, () -> house.place(third));
        is(first + " " + second + " " + third, () -> house.rootAt(0) + " " + house.rootAt(1) + " " + house.rootAt(2));
        is(Sentences.INDEX, () -> house.rootAt(3));
        is(Sentences.UNSUPPORTED, () -> house.link(0, 5));
        is(Sentences.UNSUPPORTED, () -> house.link(2, 4));
        is(1, () -> house.link(0, 4));
        is(2, () -> house.link(1, 5));
        is(3, () -> house.link(2, 3));
        is(Sentences.INDEX, () -> house.linked(6));
        document.says("At most 24 leaves come, till the bench is cleared.");
        Sidelessly full = Houses.withChain(false, 12);
        is(0, () -> full.place(12));
        is(1, () -> full.place(12));
        is(Sentences.STATE, () -> full.place(0));
        is(24, full::clear);
        is(0, () -> full.place(0));
        Sidelessly gone = Houses.full();
        is('a', () -> gone.step(0));
        is(Sentences.STATE, () -> gone.place(0));
        document.says("Two leaves that are dual atoms can be linked, each to one other one.");
        Sidelessly links = net("a A A b B");
        is(Sentences.UNSUPPORTED, () -> links.link(0, 3));
        is(Sentences.UNSUPPORTED, () -> links.link(0, 4));
        is(Sentences.UNSUPPORTED, () -> links.link(0, 0));
        is(1, () -> links.link(2, 0));
        is(Sentences.UNSUPPORTED, () -> links.link(0, 1));
        is(Sentences.UNSUPPORTED, () -> links.link(1, 0));
        is("2 0", () -> links.linked(0) + " " + links.linked(2));
        is(2, () -> links.link(3, 4));
        document.says("Two roots that are dual formulas can be cut with each other; other roots are conclusions.");
        Sidelessly cut = net("(a*b) (A|B) (B|A) (A*B) a b", 5, 8, 4, 9);
        is(Sentences.UNSUPPORTED, () -> cut.cut(0, 2));
        is(Sentences.UNSUPPORTED, () -> cut.cut(0, 3));
        is(Sentences.UNSUPPORTED, () -> cut.cut(0, 0));
        is(1, () -> cut.cut(1, 0));
        is(Sentences.UNSUPPORTED, () -> cut.walk(0));
        is(Sentences.UNSUPPORTED, () -> cut.walk(3));
        is("9 8", () -> cut.walk(4) + " " + cut.walk(5));
        document.says("A root that is gone leaves its number free for nobody.");
        Sidelessly freed = cutting(net("a A a A", 0, 1, 2, 3), 1, 2);
        is('a', () -> freed.step(0));
        is(Sentences.INDEX, () -> freed.rootAt(1));
        is(Sentences.INDEX, () -> freed.rootAt(2));
        is(4, () -> freed.place(1));
        is("3 1", () -> freed.roots() + " " + freed.rootAt(4));
        is(Sentences.INDEX, () -> freed.rootAt(1));
        is(5, freed::clear);
        is(0, () -> freed.place(0));
    }

    /**
     * Formulas a, A, b, B, and a*B (4). The derivation 8 has the conclusions A, a*B, b, and cuts of A and a, of B and
     * b, and of b and B.
     */
    private static Sidelessly withThreeCuts() {
        Sidelessly house = new Sidelessly();
        int a = house.atom('a', false);
        house.atom('a', true);
        int b = house.atom('b', false);
        int first = house.joinCut(house.axiom(a), 1, house.axiom(a), 0);
        int second = house.joinCut(house.axiom(b), 1, house.axiom(b), 0);
        int both = house.joinTimes(first, 0, second, 1);
        house.joinCut(both, 1, house.axiom(b), 1);
        return house;
    }

    private void taking() {
        document.in("Terms, The bench");
        document.says("To take a derivation clears the bench, and lays its conclusions there in order, then both "
                + "formulas of each of its cuts, cuts of the first one that was joined coming ahead of those of the "
                + "second one, and a new one last, that of the first one ahead; with the links of its axioms, and "
                + "the cuts.");
        Sidelessly house = withThreeCuts();
        house.place(2);
        house.place(4);
        house.place(3);
        house.link(0, 3);
        house.cut(0, 2);
        is(5, () -> house.take(8));
        int[] roots = {1, 4, 2, 1, 0, 3, 2, 2, 3};
        is(roots.length, house::roots);
        for (int root = 0; root < roots.length; root++) {
            int one = root;
            is(roots[root], () -> house.rootAt(one));
        }
        int[] linked = {5, 4, 7, 9, 1, 0, 8, 2, 6, 3};
        for (int leaf = 0; leaf < linked.length; leaf++) {
            int one = leaf;
            is(linked[leaf], () -> house.linked(one));
        }
        is(3, house::cuts);
        is('a', () -> house.step(1));
        is("2 8", () -> house.linked(8) + " " + house.linked(2));
        is('a', () -> house.step(0));
        is("1 0", () -> house.linked(0) + " " + house.linked(1));
        is('a', () -> house.step(0));
        is("3 2", () -> house.linked(2) + " " + house.linked(3));
        is(10, house::clear);
        Sidelessly joined = Houses.withAxioms(2);
        is(3, () -> joined.joinPar(joined.joinTimes(0, 0, 1, 0), 1, 0));
        is(2, () -> joined.take(3));
        is("3 2", () -> joined.linked(0) + " " + joined.linked(1));
        Sidelessly both = withCutsOnBothSides();
        is(5, () -> both.take(8));
        int[] rootsOfBoth = {1, 3, 4, 1, 0, 3, 2, 0, 1};
        is(rootsOfBoth.length, both::roots);
        for (int root = 0; root < rootsOfBoth.length; root++) {
            int one = root;
            is(rootsOfBoth[root], () -> both.rootAt(one));
        }
    }

    /**
     * Formulas a, A, b, B, and b*a (4). The derivation 8 has the conclusions A, B, b*a; cuts of A and a of the first
     * derivation, of B and b of the second one, and a new one of a and A.
     */
    private static Sidelessly withCutsOnBothSides() {
        Sidelessly house = new Sidelessly();
        int a = house.atom('a', false);
        int first = house.joinCut(house.axiom(a), 1, house.axiom(a), 0);
        int b = house.atom('b', false);
        int cut = house.joinCut(house.axiom(b), 1, house.axiom(b), 0);
        int second = house.joinTimes(cut, 0, house.axiom(a), 0);
        house.joinCut(first, 0, second, 1);
        return house;
    }

    private void proofs() {
        document.in("Terms, Proofs");
        document.says("A net is a proof if it has a root, all leaves that are left are linked, and for each choice of "
                + "one part for each par the graph of all formulas and their parts, with an edge from each times to "
                + "both parts, from each par to the chosen part, between linked leaves, and between roots that are "
                + "cut, is connected and has no ring, two edges between the same two being one, too.");
        is(false, () -> new Sidelessly().byChoices());
        is(false, () -> Houses.withAtoms().byChoices());
        is(false, () -> net("a").byChoices());
        is(false, () -> net("a A").byChoices());
        is(true, () -> net("a A", 0, 1).byChoices());
        is(false, () -> net("a A b", 0, 1).byChoices());
        is(false, () -> net("a A b B", 0, 1, 2, 3).byChoices());
        is(true, () -> net("(a|A)", 0, 1).byChoices());
        is(false, () -> net("(a*A)", 0, 1).byChoices());
        is(true, () -> net("(a*b) (A|B)", 0, 2, 1, 3).byChoices());
        is(false, () -> net("(a*b) (A*B)", 0, 2, 1, 3).byChoices());
        is(false, () -> net("(a|b) (A|B)", 0, 2, 1, 3).byChoices());
        is(false, () -> net("(a|b) A B", 0, 2, 1, 3).byChoices());
        is(true, () -> net("(a*b) A B", 0, 2, 1, 3).byChoices());
        is(false, () -> net("((a|A)|b) B", 0, 1, 2, 3).byChoices());
        is(true, () -> net("((a|A)*b) B", 0, 1, 2, 3).byChoices());
        is(true, () -> cutting(net("a A a A", 0, 1, 2, 3), 1, 2).byChoices());
        is(false, () -> cutting(net("a A a A", 0, 3, 2, 1), 1, 2).byChoices());
        is(false, () -> cutting(net("a A", 0, 1), 0, 1).byChoices());
        is(false, () -> cutting(net("b B a A", 0, 1, 2, 3), 2, 3).byChoices());
        is(true, () -> cutting(net("(a*b) (A|B) A (a*b) B", 0, 4, 1, 7, 2, 5, 3, 6), 0, 1).byChoices());
        is(false, () -> cutting(net("(a*b) (A|B) A B a b", 0, 4, 1, 5, 2, 6, 3, 7), 0, 1).byChoices());
        is(false, () -> cutting(net("(a|b) (A*B)", 0, 2, 1, 3), 0, 1).byChoices());
        is(false, () -> net("(A*(b|a)) (A*(a|b)) (B*B)", 2, 3, 4, 0, 1, 6, 5, 7).byChoices());
        Sidelessly left = cutting(net("a A a A", 0, 1, 2, 3), 1, 2);
        is('a', () -> left.step(0));
        is(true, left::byChoices);
    }

    private void choices() {
        document.says("Pars go by roots, in one a formula ahead of its parts, the first part ahead of the second one; "
                + "a choice is told by bits, the first par being 1, the bit being 1 for the second part.");
        is(1, () -> net("((A|b)*c) a (B*C)", 0, 3, 1, 4, 2, 5).badChoice());
        is(0, () -> net("((b|A)*c) a (B*C)", 0, 4, 1, 3, 2, 5).badChoice());
        is(2, () -> net("(a|(B*C)) ((A|b)*c)", 0, 3, 1, 4, 2, 5).badChoice());
        is(1, () -> net("((A|b)*c) (a|(B*C))", 0, 3, 1, 4, 2, 5).badChoice());
        is(2, () -> net("(((A|b)*c)|(a|(B*C)))", 0, 3, 1, 4, 2, 5).badChoice());
        is(4, () -> net("((a|(B*C))|((A|b)*c))", 0, 3, 1, 4, 2, 5).badChoice());
        is(4, () -> net("(a|((B*C)|((A|b)*c)))", 0, 3, 1, 4, 2, 5).badChoice());
        is(1, () -> net("(A*(b|a)) (A*(a|b)) (B*B)", 2, 3, 4, 0, 1, 6, 5, 7).badChoice());
        is(2, () -> net("(A*(a|b)) (A*(b|a)) (B*B)", 1, 3, 5, 0, 2, 6, 4, 7).badChoice());
        is(0, () -> net("a A b B", 0, 1, 2, 3).badChoice());
        is(0, () -> net("(a*A)", 0, 1).badChoice());
    }

    private void contraction() {
        document.in("Terms, Contraction");
        document.says("All formulas are points at first.");
        is(true, () -> net("a A", 0, 1).byContraction());
        is(false, () -> net("a A a A", 0, 1, 2, 3).byContraction());
        document.says("Points joined by an edge of a times, a link or a cut become one; if they are one already by "
                + "others, the net is no proof.");
        is(true, () -> net("(a*b) A B", 0, 2, 1, 3).byContraction());
        is(false, () -> net("(a*A)", 0, 1).byContraction());
        is(false, () -> net("(a*b) (A*B)", 0, 2, 1, 3).byContraction());
        is(true, () -> cutting(net("a A a A", 0, 1, 2, 3), 1, 2).byContraction());
        is(false, () -> cutting(net("a A a A", 0, 3, 2, 1), 1, 2).byContraction());
        is(false, () -> cutting(net("a A", 0, 1), 0, 1).byContraction());
        is(false, () -> net("((a*A)|b) B", 0, 1, 2, 3).byContraction());
        document.says("A par becomes one with its parts, if both are one point and it is another one.");
        is(true, () -> net("(a|A)", 0, 1).byContraction());
        is(true, () -> net("(a*b) (A|B)", 0, 2, 1, 3).byContraction());
        is(false, () -> net("(a|b) A B", 0, 2, 1, 3).byContraction());
        is(true, () -> net("((a*b)|((A|B)*c)) C", 0, 2, 1, 3, 4, 5).byContraction());
        is(true, () -> net("(((A|B)*c)|(a*b)) C", 0, 3, 1, 4, 2, 5).byContraction());
        is(false, () -> net("((A|b)*c) a (B*C)", 0, 3, 1, 4, 2, 5).byContraction());
        is(false, () -> net("(a*(A|b)) B", 0, 1, 2, 3).byContraction());
        is(true, () -> net("((A|a)*B) ((c|C)*b)", 0, 1, 3, 4, 2, 5).byContraction());
        is(false, () -> net("((a|b)*(A*B))", 0, 2, 1, 3).byContraction());
        is(false, () -> cutting(net("(a|b) (A*B)", 0, 2, 1, 3), 0, 1).byContraction());
        is(false, () -> net("(A*(b|a)) (A*(a|b)) (B*B)", 2, 3, 4, 0, 1, 6, 5, 7).byContraction());
        document.says("The net is a proof if it has a root, all leaves that are left are linked, and one point is "
                + "left, to which all pars have become one.");
        is(false, () -> new Sidelessly().byContraction());
        is(false, () -> net("a A").byContraction());
        is(false, () -> net("a A b", 0, 1).byContraction());
        is(false, () -> net("(a|b) (A|B)", 0, 2, 1, 3).byContraction());
        is(false, () -> net("((a|A)*c) (b|B) C", 0, 1, 2, 5, 3, 4).byContraction());
        Sidelessly left = cutting(net("a A a A", 0, 1, 2, 3), 1, 2);
        is('a', () -> left.step(0));
        is(true, left::byContraction);
        is(3, () -> left.unlink(0));
        is(false, left::byContraction);
    }

    private void trips() {
        document.in("Terms, Trips");
        document.says("A walker goes up and down formulas.");
        is(true, () -> net("a A", 0, 1).byTrips());
        document.says("Up a leaf it goes down its linked one; down a conclusion it goes up it again; down a root that "
                + "is cut it goes up the other one.");
        is(true, () -> net("(b|a) (A*B)", 1, 2, 0, 3).byTrips());
        is(false, () -> net("a A b B", 0, 1, 2, 3).byTrips());
        is(true, () -> cutting(net("a A a A", 0, 1, 2, 3), 1, 2).byTrips());
        is(true, () -> cutting(net("a A a A a A", 0, 1, 2, 3, 4, 5), 1, 2, 3, 4).byTrips());
        is(false, () -> cutting(net("a A a A", 0, 3, 2, 1), 1, 2).byTrips());
        is(false, () -> cutting(net("a A", 0, 1), 0, 1).byTrips());
        document.says("At a times that is turned to the first part: down the second part it goes up the first one, "
                + "down the first part down the times, up the times up the second part; turned to the second part "
                + "likewise with both parts exchanged.");
        is(true, () -> net("(a*b) A B", 0, 2, 1, 3).byTrips());
        is(false, () -> net("(a*A)", 0, 1).byTrips());
        is(false, () -> net("(a*b) (A*B)", 0, 2, 1, 3).byTrips());
        is(true, () -> net("(a*b) (B*c) A C", 0, 4, 1, 2, 3, 5).byTrips());
        document.says("At a par that is turned to the first part: down the first part it goes down the par, up the par "
                + "up the first part, down the second part up the second part; turned to the second part likewise.");
        is(true, () -> net("(a|A)", 0, 1).byTrips());
        is(false, () -> net("(a|b) A B", 0, 2, 1, 3).byTrips());
        is(false, () -> net("((A|b)*c) a (B*C)", 0, 3, 1, 4, 2, 5).byTrips());
        is(false, () -> net("((b|A)*c) a (B*C)", 0, 4, 1, 3, 2, 5).byTrips());
        document.says("The net is a proof if it has a root, all leaves that are left are linked, and for all ways to "
                + "turn one trip goes through all formulas, up and down.");
        is(false, () -> new Sidelessly().byTrips());
        is(false, () -> net("a A").byTrips());
        is(false, () -> net("a A b", 0, 1).byTrips());
        is(true, () -> net("(a*b) (A|B)", 0, 2, 1, 3).byTrips());
        is(false, () -> net("(a|b) (A|B)", 0, 2, 1, 3).byTrips());
        is(false, () -> net("(A*(b|a)) (A*(a|b)) (B*B)", 2, 3, 4, 0, 1, 6, 5, 7).byTrips());
        is(false, () -> net("(A*(a|b)) (A*(b|a)) (B*B)", 1, 3, 5, 0, 2, 6, 4, 7).byTrips());
        Sidelessly left = cutting(net("a A a A", 0, 1, 2, 3), 1, 2);
        is('a', () -> left.step(0));
        is(true, left::byTrips);
        is(3, () -> left.unlink(0));
        is(false, left::byTrips);
    }

    private void trees() {
        document.in("Terms, Trees");
        document.says("A conclusion that is a times splits a proof if without it its two parts are in unlike pieces, "
                + "all edges of pars being there; a cut likewise.");
        is(0, () -> net("a A", 0, 1).splits());
        is(1, () -> net("(a*b) A B", 0, 2, 1, 3).splits());
        is(0, () -> net("(a*b) (A|B)", 0, 2, 1, 3).splits());
        is(1, () -> net("((a*b)*c) A B C", 0, 3, 1, 4, 2, 5).splits());
        is(2, () -> net("(a*b) (B*c) A C", 0, 4, 1, 2, 3, 5).splits());
        is(0, () -> net("((a*b)|A) B", 0, 2, 1, 3).splits());
        is(1, () -> net("((a|A)*b) B", 0, 1, 2, 3).splits());
        is(1, () -> cutting(net("a A a A", 0, 1, 2, 3), 1, 2).splits());
        is(2, () -> cutting(net("a A a A a A", 0, 1, 2, 3, 4, 5), 1, 2, 3, 4).splits());
        is(1, () -> cutting(net("(a*b) (A|B) A (a*b) B", 0, 4, 1, 7, 2, 5, 3, 6), 0, 1).splits());
        is(0, () -> cutting(net("(a|A) A a", 0, 2, 1, 3), 1, 2).splits());
        document.says("A tree of a proof is an axiom for two linked leaves alone; or a par that is a conclusion and a "
                + "tree of what is left; or a times or cut that splits, and trees of both pieces.");
        is(1, () -> net("a A", 0, 1).trees());
        is(1, () -> net("(a|A)", 0, 1).trees());
        is(1, () -> net("((a*b)|(A|B))", 0, 2, 1, 3).trees());
        is(1, () -> net("(a*b) A B", 0, 2, 1, 3).trees());
        is(1, () -> net("(a*b) (A|B)", 0, 2, 1, 3).trees());
        is(1, () -> net("((a*b)*c) A B C", 0, 3, 1, 4, 2, 5).trees());
        is(1, () -> net("((a|A)*b) B", 0, 1, 2, 3).trees());
        is(1, () -> cutting(net("a A a A", 0, 1, 2, 3), 1, 2).trees());
        is(1, () -> cutting(net("(a|A) A a", 0, 2, 1, 3), 1, 2).trees());
        is(1, () -> cutting(net("(a*b) (A|B) A (a*b) B", 0, 4, 1, 7, 2, 5, 3, 6), 0, 1).trees());
        document.says("Trees are unlike if they differ in a rule, or in which piece it stands.");
        is(2, () -> net("(a*b) (B*c) A C", 0, 4, 1, 2, 3, 5).trees());
        is(5, () -> net("(a*b) (B*c) (C*d) A D", 0, 6, 1, 2, 3, 4, 5, 7).trees());
        is(2, () -> cutting(net("a A a A a A", 0, 1, 2, 3, 4, 5), 1, 2, 3, 4).trees());
        is(5, () -> net("((a*b)*(c*d)) (A|B) (C|D)", 0, 4, 1, 5, 2, 6, 3, 7).trees());
        is(2, () -> net("(a*b) A ((c|C)*B)", 0, 2, 1, 5, 3, 4).trees());
        is(2, () -> net("(a*b) (A|c) (B*C)", 0, 2, 1, 4, 3, 5).trees());
    }

    private void cuts() {
        document.in("Terms, Cuts");
        document.says("They go in the order in which they were made.");
        Sidelessly ordered = cutting(net("a A a A a A b B b B", 0, 1, 2, 3, 4, 5, 6, 7, 8, 9), 7, 8, 1, 2, 4, 3);
        is('a', () -> ordered.step(0));
        is("9 6 3", () -> ordered.linked(6) + " " + ordered.linked(9) + " " + ordered.linked(2));
        is('a', () -> ordered.step(1));
        is("5 1", () -> ordered.linked(2) + " " + ordered.linked(0));
        is('a', () -> ordered.step(0));
        is("5 0", () -> ordered.linked(0) + " " + ordered.cuts());
        document.says("A step takes one away: of two atoms, whose linked leaves are linked with each other then, 'a'; "
                + "of a times and a par, whose first parts, which are roots then, are cut with each other, and then "
                + "the second ones, 'b'.");
        Sidelessly atoms = cutting(net("a A a A", 0, 1, 2, 3), 1, 2);
        is('a', () -> atoms.step(0));
        is("3 0", () -> atoms.linked(0) + " " + atoms.linked(3));
        is("0 2", () -> atoms.cuts() + " " + atoms.roots());
        Sidelessly joins = cutting(net("(a*b) (A|B) A (a*b) B", 0, 4, 1, 7, 2, 5, 3, 6), 0, 1);
        is('b', () -> joins.step(0));
        is("2 7", () -> joins.cuts() + " " + joins.roots());
        is("A a B b", () -> joins.kind(joins.rootAt(6)) + " " + joins.kind(joins.rootAt(5)) + " "
                + joins.kind(joins.rootAt(8)) + " " + joins.kind(joins.rootAt(7)));
        is('a', () -> joins.step(1));
        is("7 6", () -> joins.linked(6) + " " + joins.linked(7));
        is('a', () -> joins.step(0));
        is("4 5", () -> joins.linked(5) + " " + joins.linked(4));
        document.says("Leaves keep their numbers by that; four roots come: the first part of the root told first in "
                + "the cut, the first part of the other one, and then both second parts likewise; the two new cuts "
                + "come last, that of the first parts ahead.");
        Sidelessly parts = cutting(net("(a*(b*c)) b B (A|(B|C)) b B", 0, 5, 1, 4, 3, 6, 8, 9), 3, 0, 2, 4);
        is('b', () -> parts.step(0));
        is("A a | *", () -> parts.kind(parts.rootAt(6)) + " " + parts.kind(parts.rootAt(7)) + " "
                + parts.kind(parts.rootAt(8)) + " " + parts.kind(parts.rootAt(9)));
        is(Sentences.INDEX, () -> parts.rootAt(0));
        is(Sentences.INDEX, () -> parts.rootAt(3));
        is("5 4 6 9", () -> parts.linked(0) + " " + parts.linked(1) + " " + parts.linked(3) + " " + parts.linked(8));
        is('b', () -> parts.step(2));
        is("B b C c", () -> parts.kind(parts.rootAt(10)) + " " + parts.kind(parts.rootAt(11)) + " "
                + parts.kind(parts.rootAt(12)) + " " + parts.kind(parts.rootAt(13)));
        is("4 10", () -> parts.cuts() + " " + parts.roots());
        is('a', () -> parts.step(2));
        is("4 3", () -> parts.linked(3) + " " + parts.linked(4));
        is('a', () -> parts.step(0));
        is("9 3", () -> parts.linked(3) + " " + parts.linked(9));
        document.says("A step of two atoms that are linked with each other, or of which one is not linked, is "
                + "refused.");
        is(Sentences.UNSUPPORTED, () -> parts.step(0));
        is(Sentences.UNSUPPORTED, () -> parts.step(1));
        is("2 6", () -> parts.cuts() + " " + parts.roots());
        is(Sentences.UNSUPPORTED, () -> cutting(net("a A", 0, 1), 0, 1).step(0));
        is(Sentences.UNSUPPORTED, () -> cutting(net("a A a", 0, 1), 1, 2).step(0));
        is(Sentences.UNSUPPORTED, () -> cutting(net("a A a", 0, 1), 2, 1).step(0));
        is(Sentences.UNSUPPORTED, () -> cutting(net("a A"), 0, 1).step(0));
        is('b', () -> cutting(net("(a*b) (A|B)"), 0, 1).step(0));
        document.says("A normal form comes by steps of the first cut, as long as there is one.");
        is(0, () -> net("a A", 0, 1).normal());
        Sidelessly whole = cutting(net("(a*b) (A|B) A (a*b) B", 0, 4, 1, 7, 2, 5, 3, 6), 0, 1);
        is(3, whole::normal);
        is("0 5 6 3", () -> whole.cuts() + " " + whole.linked(4) + " " + whole.linked(7) + " " + whole.roots());
        is(0, whole::normal);
        is(Sentences.UNSUPPORTED, () -> cutting(net("a A b B", 0, 1, 2, 3), 0, 1).normal());
    }

    private void walks() {
        document.in("Terms, Walks");
        document.says("A token at a leaf of a conclusion goes to its linked leaf; from a leaf of a root that is cut it "
                + "goes on to the leaf of the other root at the same place among its leaves, and from there to its "
                + "linked leaf, and so on; it ends at a leaf of a conclusion.");
        is("1 0 1", () -> walks(net("a A", 0, 1), 0, 1) + " " + net("a A", 0, 1).passes(0));
        Sidelessly chain = cutting(net("a A a A a A", 0, 1, 2, 3, 4, 5), 1, 2, 3, 4);
        is("5 0", () -> walks(chain, 0, 5));
        is("3 3", () -> chain.passes(0) + " " + chain.passes(5));
        is(Sentences.UNSUPPORTED, () -> chain.walk(2));
        Sidelessly three = cutting(net("(a*(b*c)) (A|(B|C)) A B C a b c", 0, 6, 1, 7, 2, 8, 3, 9, 4, 10, 5, 11), 1, 0);
        is("9 10 11 6 7 8", () -> walks(three, 6, 7, 8, 9, 10, 11));
        is("2 2", () -> three.passes(7) + " " + three.passes(11));
        Sidelessly twice = cutting(net("(a*A) (A|a) A a", 0, 4, 2, 3, 1, 5), 0, 1);
        is("5 4", () -> walks(twice, 4, 5));
        is("3 3", () -> twice.passes(4) + " " + twice.passes(5));
        is(2, () -> twice.unlink(3));
        is(Sentences.UNSUPPORTED, () -> twice.walk(4));
        is(Sentences.UNSUPPORTED, () -> twice.walk(5));
    }

    private static String walks(Sidelessly house, int... leaves) {
        StringBuilder ends = new StringBuilder();
        for (int leaf : leaves) {
            ends.append(ends.length() == 0 ? "" : " ").append(house.walk(leaf));
        }
        return ends.toString();
    }

    private void meanings() {
        document.in("Terms, Meanings");
        document.says("Each letter has 1 to 3 points, 2 at first.");
        Sidelessly letters = new Sidelessly();
        for (char letter = 'a'; letter <= 'e'; letter++) {
            char one = letter;
            is("2 3 1", () -> letters.points(one, 3) + " " + letters.points(one, 1) + " " + letters.points(one, 1));
            is(Sentences.ARGUMENT, () -> letters.points(one, 0));
            is(Sentences.ARGUMENT, () -> letters.points(one, 4));
        }
        document.says("A row has a point of its letter for each leaf of a conclusion, in order, those at both ends of "
                + "a walk having the same one.");
        is(2, () -> net("a A", 0, 1).meaning());
        is(4, () -> net("a A a A", 0, 1, 2, 3).meaning());
        is(4, () -> net("(a*b) (A|B)", 0, 2, 1, 3).meaning());
        is(2, () -> cutting(net("a A a A", 0, 1, 2, 3), 1, 2).meaning());
        is(8, () -> cutting(net("(a*(b*c)) (A|(B|C)) A B C a b c", 0, 6, 1, 7, 2, 8, 3, 9, 4, 10, 5, 11), 1, 0)
                .meaning());
        document.says("The meaning is the set of all rows.");
        Sidelessly rows = net("a A b B C c", 0, 1, 2, 3, 4, 5);
        is(8, rows::meaning);
        is(2, () -> rows.points('a', 3));
        is(12, rows::meaning);
        is(2, () -> rows.points('b', 1));
        is(6, rows::meaning);
        is(2, () -> rows.points('d', 3));
        is(6, rows::meaning);
        is(1, () -> new Sidelessly().meaning());
    }

    private static boolean isClique(Sidelessly house, String nearLetters) {
        for (char letter : nearLetters.toCharArray()) {
            house.near(letter, 0, 1, true);
        }
        return house.isClique();
    }

    private void cliques() {
        document.says("Two unlike points of a letter are near or far, far at first; for a turned atom it is the other "
                + "way round.");
        is(false, () -> new Sidelessly().near('a', 0, 1, true));
        is(true, () -> isClique(net("(a*b) (A*B)", 0, 2, 1, 3), ""));
        is(false, () -> isClique(net("(a*b) (A*B)", 0, 2, 1, 3), "a"));
        is(false, () -> isClique(net("(a*b) (A*B)", 0, 2, 1, 3), "b"));
        is(true, () -> isClique(net("(a*b) (A*B)", 0, 2, 1, 3), "ab"));
        is(true, () -> isClique(net("(a*B) (A*b)", 0, 2, 1, 3), "a"));
        is(false, () -> isClique(net("(a*B) (A*b)", 0, 2, 1, 3), ""));
        document.says("Two rows are, for an atom, alike, near or far as the points; for a times far if some part is, "
                + "otherwise near if some part is; for a par near if some part is, otherwise far if some part is.");
        is(true, () -> isClique(net("a A", 0, 1), ""));
        is(true, () -> isClique(net("(a|A)", 0, 1), ""));
        is(true, () -> isClique(net("(a|A)", 0, 1), "a"));
        is(false, () -> isClique(net("(a*A)", 0, 1), ""));
        is(false, () -> isClique(net("(a*A)", 0, 1), "a"));
        is(false, () -> isClique(net("((a*A)|b) B", 0, 1, 2, 3), ""));
        is(true, () -> isClique(net("((a|A)*b) B", 0, 1, 2, 3), ""));
        is(true, () -> isClique(net("(a|b) (A|B)", 0, 2, 1, 3), "a"));
        is(true, () -> isClique(net("(a*b) (A|B)", 0, 2, 1, 3), "b"));
        document.says("The meaning is a clique if each two unlike rows are near for some conclusion.");
        is(true, () -> isClique(net("a A b B", 0, 1, 2, 3), "a"));
        is(false, () -> isClique(cutting(net("(a*A) b B", 0, 1, 2, 3), 1, 2), ""));
        is(false, () -> isClique(cutting(net("(a*A) (b|c) (B*C)", 0, 1, 2, 4, 3, 5), 1, 2), "b"));
        Sidelessly onePoint = net("((a*A)|b) B", 0, 1, 2, 3);
        is(2, () -> onePoint.points('a', 1));
        is(true, onePoint::isClique);
        is(true, () -> new Sidelessly().isClique());
        Sidelessly threePoints = net("(a*b) (A*B)", 0, 2, 1, 3);
        is(2, () -> threePoints.points('a', 3));
        is(true, threePoints::isClique);
        is(false, () -> threePoints.near('a', 2, 1, true));
        is(false, threePoints::isClique);
        is(true, () -> threePoints.near('a', 1, 2, false));
        is(true, threePoints::isClique);
    }

    /** Formulas: a, A, a*a, a*A, a|a, a|A, A*A. */
    private static Sidelessly withJoins(int size, int pole, int set) {
        Sidelessly house = new Sidelessly();
        for (String formula : "a A (a*a) (a*A) (a|a) (a|A) (A*A)".split(" ")) {
            Houses.told(house, formula);
        }
        house.monoid(size, pole);
        house.set('a', set);
        return house;
    }

    private static String values(Sidelessly house) {
        StringBuilder values = new StringBuilder();
        for (int formula = 0; formula < 7; formula++) {
            values.append(formula == 0 ? "" : " ").append(house.value(formula));
        }
        return values.toString();
    }

    private void monoids() {
        document.in("Terms, Monoids");
        document.says("The numbers below the size, 1 to 3, 1 at first, are added, the rest by the size being taken; "
                + "some are the pole, none at first, told as bits.");
        Sidelessly house = new Sidelessly();
        is(0, () -> house.atom('a', true));
        is(1, () -> house.value(0));
        is(0, () -> house.set('a', 1));
        is(0, () -> house.value(0));
        is(Sentences.ARGUMENT, () -> house.set('a', 2));
        is("1 3 2", () -> house.monoid(3, 7) + " " + house.monoid(2, 3) + " " + house.monoid(1, 1));
        is(Sentences.ARGUMENT, () -> house.monoid(0, 0));
        is(Sentences.ARGUMENT, () -> house.monoid(4, 0));
        is(Sentences.ARGUMENT, () -> house.monoid(2, 4));
        is("2 4 4 1 4 1 2", () -> values(withJoins(3, 1, 2)));
        document.says("The dual of a set is all numbers that with each of it add up to one of the pole.");
        is(7, () -> withJoins(3, 1, 3).value(0));
        is(0, () -> withJoins(3, 1, 3).value(1));
        is(1, () -> withJoins(3, 6, 1).value(0));
        is(6, () -> withJoins(3, 6, 1).value(1));
        is(2, () -> withJoins(2, 2, 1).value(1));
        is(4, () -> withJoins(3, 3, 6).value(1));
        is(7, () -> withJoins(3, 1, 0).value(1));
        document.says("Each letter has a set, none at first, and the value of the atom is the dual of the dual of it; "
                + "of a turned atom the dual of that; of a times the dual of the dual of all sums of one of each; of "
                + "a par the dual of all sums of one of the dual of each.");
        is(0, () -> new Sidelessly().set('e', 0));
        is("0 1 0 0 0 1 1", () -> values(withJoins(1, 0, 0)));
        is("1 1 1 1 1 1 1", () -> values(withJoins(1, 1, 0)));
        is("1 6 1 6 0 1 7", () -> values(withJoins(3, 6, 1)));
        is("1 2 1 2 2 1 1", () -> values(withJoins(2, 2, 1)));
        document.says("A formula holds if 0 is in its value.");
        is(1, () -> withJoins(3, 6, 1).counter(0));
        is(1, () -> withJoins(3, 6, 1).counter(1));
        is(Sentences.NO_SUCH, () -> withJoins(1, 0, 0).counter(5));
        Sidelessly holds = withJoins(3, 6, 1);
        is(1, () -> holds.counter(1));
        is(0, () -> holds.value(1));
        is("1 1", () -> holds.set('a', 0) + " " + holds.monoid(1, 0));
    }

    private void exceptions() {
        document.in("Terms, Exceptions");
        document.says("A method that throws an exception changes nothing.");
        Check check = document.check;
        check.refuses("times", Check.INDEX, Houses::withAtoms, house -> house.times(0, 10));
        check.refuses("dual", Check.STATE, () -> Houses.withFormulas(60), house -> house.dual(10));
        check.refuses("axiom", Check.STATE, () -> Houses.withAxioms(24), house -> house.axiom(0));
        check.refuses("joinTimes", Check.INDEX, () -> Houses.withAxioms(2), house -> house.joinTimes(0, 0, 1, 2));
        check.refuses("take", Check.INDEX, Houses::full, house -> house.take(24));
        check.refuses("place", Check.STATE, Houses::full, house -> house.place(0));
        check.refuses("link", Check.UNSUPPORTED, () -> net("a A A", 0, 1), house -> house.link(0, 2));
        check.refuses("cut", Check.UNSUPPORTED, Houses::full, house -> house.cut(0, 1));
        check.refuses("normal", Check.UNSUPPORTED, () -> cutting(net("a A a A b B", 0, 1, 2, 3), 1, 2, 4, 5),
                house -> house.normal());
        check.refuses("counter", Check.NO_SUCH, () -> withJoins(3, 6, 1), house -> house.counter(5));
        check.refuses("proof", Check.NO_SUCH, () -> net("(a|A)"), house -> house.proof(1));
        document.says("If several exceptions apply, the exception listed first is thrown.");
        is(Sentences.ARGUMENT, () -> Houses.withFormulas(60).atom('f', false));
        is(Sentences.INDEX, () -> Houses.withFormulas(60).times(-1, 60));
        is(Sentences.ARGUMENT, () -> {
            Sidelessly house = Houses.withChain(true, 12);
            Houses.fillFormulas(house, 60);
            return house.times(12, 0);
        });
        is(Sentences.INDEX, () -> Houses.withAxioms(24).axiom(2));
        is(Sentences.UNSUPPORTED, () -> {
            Sidelessly house = Houses.withAxioms(24);
            return house.axiom(house.times(0, 0));
        });
        is(Sentences.INDEX, () -> Houses.withAxioms(24).joinPar(0, 2, 2));
        is(Sentences.ARGUMENT, () -> Houses.withAxioms(24).joinPar(0, 1, 1));
        is(Sentences.ARGUMENT, () -> {
            Sidelessly house = Houses.withAxioms(2);
            house.joinTimes(0, 0, 1, 0);
            return house.joinCut(0, 0, 0, 1);
        });
        is(Sentences.NO_SUCH, () -> {
            Sidelessly house = Houses.withAxioms(23);
            house.joinTimes(0, 0, 1, 0);
            return house.joinCut(0, 0, 2, 0);
        });
        is(Sentences.UNSUPPORTED, () -> Houses.withAxioms(24).joinCut(0, 0, 1, 0));
        is(Sentences.INDEX, () -> cutting(net("a A", 0, 1), 0, 1).step(1));
        is(Sentences.INDEX, () -> Houses.withAxioms(1).joinTimes(0, 0, 0, 2));
        is(Sentences.INDEX, () -> Houses.withAxioms(1).joinCut(0, 0, 0, 2));
        Sidelessly large = Houses.withLargeConclusion();
        is(20, () -> large.joinPar(19, 0, 1));
        is(Sentences.ARGUMENT, () -> large.joinPar(19, 2, 0));
        is(Sentences.ARGUMENT, () -> large.joinTimes(19, 2, 0, 0));
        is(Sentences.ARGUMENT, () -> large.joinTimes(0, 0, 19, 2));
        Sidelessly full = Houses.withAxioms(22);
        is(22, () -> full.joinPar(0, 0, 1));
        is(23, () -> full.joinTimes(1, 0, 2, 0));
        is(Sentences.NO_SUCH, () -> full.joinPar(0, 0, 1));
        is(Sentences.NO_SUCH, () -> full.joinTimes(3, 0, 1, 0));
        is(Sentences.NO_SUCH, () -> full.joinTimes(2, 0, 3, 0));
        is(Sentences.STATE, () -> full.joinTimes(3, 0, 4, 0));
    }

    private void examples() {
        document.in("Terms, Examples");
        document.says("each one begins with a new object; behind each call and = stands its result.");
        is(0, () -> new Sidelessly().roots());
        example("atom('a', false) = 0; axiom(0) = 0; axiom(0) = 1; joinTimes(0, 0, 1, 0) = 2; joinPar(2, 0, 1) = 3; "
                + "take(3) = 2; byTrips() = true; trees() = 1; proofs() = 2.");
        example("atom('a', false) = 0; axiom(0) = 0; axiom(0) = 1; joinCut(0, 1, 1, 0) = 2; take(2) = 2; "
                + "passes(0) = 2; step(0) = 'a'; passes(0) = 1.");
        example("atom('a', false) = 0; atom('a', true) = 1; times(0, 1) = 2; place(2) = 0; link(0, 1) = 1; "
                + "byContraction() = false; counter(2) = 1.");
    }

    private void example(String words) {
        document.says(words);
        Calls calls = new Calls();
        for (String one : words.replaceFirst("\\.$", "").split("; ")) {
            String[] sides = one.split(" = ");
            is(sides[1], () -> calls.answerOf(sides[0]));
        }
    }
}
