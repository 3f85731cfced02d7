import java.util.NoSuchElementException;

/**
 * A house of proofs without sides: formulas, derivations, a bench with a net of links, tests whether the net is a
 * proof, its trees, its cuts, its walks and its meaning, monoids, and a search for all proofs.
 *
 * <p>All work rows are made once, by the constructor. Each method of the face first looks for what it has to refuse,
 * and only then changes something.
 */
public final class Sidelessly {
    private static final int NONE = -1;
    private static final int MOST_FORMULAS = 60;
    private static final int MOST_ATOMS = 12;
    private static final int MOST_DERIVATIONS = 24;
    private static final int MOST_LEAVES = 24;
    // A formula with n leaves has 2n - 1 parts, itself being one, and each part is a root once at most.
    private static final int MOST_NODES = 2 * MOST_LEAVES;
    // Each step takes two leaves, or a times and a par, away.
    private static final int MOST_STEPS = 2 * MOST_NODES;
    private static final int MOST_SWITCHES = 10;
    private static final int MOST_SEARCHED_LEAVES = 10;
    private static final int MOST_ROWS = 243;
    private static final int LETTERS = 5;
    private static final int MOST_LETTERS_COUNTERED = 3;
    private static final int MOST_POINTS = 3;
    private static final int MOST_NUMBERS = 3;
    private static final int TIMES = '*';
    private static final int PAR = '|';

    private final Formulas formulas;
    private final Derivations derivations;
    private final Bench bench;
    private final Bench benchOnTrial;
    private final Net net;
    private final Trips trips;
    private final Trees treesOfNet;
    private final Spaces spaces;
    private final Search search;
    private final Monoid monoidNow;
    private final Monoid monoidOnTrial;

    public Sidelessly() {
        Formulas told = new Formulas();
        Net graph = new Net(told);
        formulas = told;
        derivations = new Derivations(told);
        bench = new Bench(told);
        benchOnTrial = new Bench(told);
        net = graph;
        trips = new Trips(graph);
        treesOfNet = new Trees(graph);
        spaces = new Spaces(told);
        search = new Search(told);
        monoidNow = new Monoid(told);
        monoidOnTrial = new Monoid(told);
    }

    public int atom(char letter, boolean isTurned) throws IllegalArgumentException, IllegalStateException {
        requireLetter(letter);
        int kind = isTurned ? Formulas.opposite(letter) : letter;
        requireRoom(kind, NONE, NONE);
        return formulas.add(kind, NONE, NONE);
    }

    public int times(int first, int second)
            throws IndexOutOfBoundsException, IllegalArgumentException, IllegalStateException {
        return joinFormulas(TIMES, first, second);
    }

    public int par(int first, int second)
            throws IndexOutOfBoundsException, IllegalArgumentException, IllegalStateException {
        return joinFormulas(PAR, first, second);
    }

    public int dual(int formula) throws IndexOutOfBoundsException, IllegalStateException {
        requireFormula(formula);
        if (formulas.count() + formulas.missingDuals(formula) > MOST_FORMULAS) {
            throw new IllegalStateException("there would be too many formulas");
        }
        return formulas.addDual(formula);
    }

    public char kind(int formula) throws IndexOutOfBoundsException {
        requireFormula(formula);
        return (char) formulas.kinds.at(formula);
    }

    public int part(int formula, boolean isSecond) throws IndexOutOfBoundsException, NoSuchElementException {
        requireFormula(formula);
        if (formulas.isAtom(formula)) {
            throw new NoSuchElementException("an atom has no parts");
        }
        return isSecond ? formulas.seconds.at(formula) : formulas.firsts.at(formula);
    }

    public int axiom(int formula)
            throws IndexOutOfBoundsException, UnsupportedOperationException, IllegalStateException {
        requireFormula(formula);
        if (!formulas.isAtom(formula)) {
            throw new UnsupportedOperationException("an axiom is of an atom");
        }
        requireRoomForDerivation();
        int turned = Formulas.opposite(formulas.kinds.at(formula));
        requireRoom(turned, NONE, NONE);
        return derivations.addAxiom(formula, formulas.add(turned, NONE, NONE));
    }

    public int joinPar(int derivation, int one, int other)
            throws IndexOutOfBoundsException, IllegalArgumentException, NoSuchElementException,
            IllegalStateException {
        requireConclusion(derivation, one);
        requireConclusion(derivation, other);
        int first = derivations.formulaAt(derivation, one);
        int second = derivations.formulaAt(derivation, other);
        if (one == other) {
            throw new IllegalArgumentException("both conclusions are the same");
        }
        requireFewAtoms(first, second);
        requireUnused(derivation);
        requireRoomForDerivation();
        requireRoom(PAR, first, second);
        return derivations.addPar(derivation, one, other, formulas.add(PAR, first, second));
    }

    public int joinTimes(int derivation, int one, int second, int other)
            throws IndexOutOfBoundsException, IllegalArgumentException, NoSuchElementException,
            IllegalStateException {
        requireConclusion(derivation, one);
        requireConclusion(second, other);
        requireUnlike(derivation, second);
        int firstPart = derivations.formulaAt(derivation, one);
        int secondPart = derivations.formulaAt(second, other);
        requireFewAtoms(firstPart, secondPart);
        requireUnused(derivation);
        requireUnused(second);
        requireRoomForDerivation();
        requireRoom(TIMES, firstPart, secondPart);
        return derivations.addTimes(derivation, one, second, other, formulas.add(TIMES, firstPart, secondPart));
    }

    public int joinCut(int derivation, int one, int second, int other)
            throws IndexOutOfBoundsException, IllegalArgumentException, NoSuchElementException,
            UnsupportedOperationException, IllegalStateException {
        requireConclusion(derivation, one);
        requireConclusion(second, other);
        requireUnlike(derivation, second);
        requireUnused(derivation);
        requireUnused(second);
        if (!formulas.areDual(derivations.formulaAt(derivation, one), derivations.formulaAt(second, other))) {
            throw new UnsupportedOperationException("the conclusions are not dual");
        }
        requireRoomForDerivation();
        return derivations.addCut(derivation, one, second, other);
    }

    public int conclusions(int derivation) throws IndexOutOfBoundsException {
        requireDerivation(derivation);
        return derivations.conclusionCounts.at(derivation);
    }

    public int conclusion(int derivation, int index) throws IndexOutOfBoundsException, NoSuchElementException {
        requireDerivation(derivation);
        if (!derivations.hasConclusion(derivation, index)) {
            throw new NoSuchElementException("there is no such conclusion");
        }
        return derivations.formulaAt(derivation, index);
    }

    public int take(int derivation) throws IndexOutOfBoundsException, UnsupportedOperationException {
        requireDerivation(derivation);
        if (derivations.leafCounts.at(derivation) > MOST_LEAVES) {
            throw new UnsupportedOperationException("the derivation has too many leaves");
        }
        derivations.layOn(bench, derivation);
        return bench.countLinkedLeaves() / 2;
    }

    public int place(int formula) throws IndexOutOfBoundsException, IllegalStateException {
        requireFormula(formula);
        if (bench.leafCount() + formulas.sizes.at(formula) > MOST_LEAVES) {
            throw new IllegalStateException("too many leaves would have come");
        }
        return bench.lay(formula);
    }

    public int link(int one, int other) throws IndexOutOfBoundsException, UnsupportedOperationException {
        requireLeaf(one);
        requireLeaf(other);
        if (!formulas.areDual(bench.leafAtoms.at(one), bench.leafAtoms.at(other))) {
            throw new UnsupportedOperationException("the leaves are not dual");
        }
        if (bench.leafLinks.at(one) != NONE || bench.leafLinks.at(other) != NONE) {
            throw new UnsupportedOperationException("a leaf is linked");
        }
        bench.tie(one, other);
        return bench.countLinkedLeaves() / 2;
    }

    public int unlink(int leaf) throws IndexOutOfBoundsException, NoSuchElementException {
        requireLinkedLeaf(leaf);
        return bench.untie(leaf);
    }

    public int cut(int one, int other) throws IndexOutOfBoundsException, UnsupportedOperationException {
        requireRoot(one);
        requireRoot(other);
        if (!formulas.areDual(bench.rootFormulas.at(one), bench.rootFormulas.at(other))) {
            throw new UnsupportedOperationException("the roots are not dual");
        }
        if (!bench.isConclusion(one) || !bench.isConclusion(other)) {
            throw new UnsupportedOperationException("a root is cut");
        }
        bench.addCut(one, other);
        return bench.cutCount();
    }

    public int clear() {
        int come = bench.leafCount();
        bench.empty();
        return come;
    }

    public int roots() {
        return bench.countRoots();
    }

    public int rootAt(int root) throws IndexOutOfBoundsException {
        requireRoot(root);
        return bench.rootFormulas.at(root);
    }

    public int linked(int leaf) throws IndexOutOfBoundsException, NoSuchElementException {
        requireLinkedLeaf(leaf);
        return bench.leafLinks.at(leaf);
    }

    public boolean byChoices() throws UnsupportedOperationException {
        net.build(bench);
        requireFewPars();
        return net.isComplete() && net.firstBadChoice() == NONE;
    }

    public int badChoice() throws UnsupportedOperationException, NoSuchElementException {
        net.build(bench);
        requireFewPars();
        int choice = net.isComplete() ? net.firstBadChoice() : NONE;
        if (choice == NONE) {
            throw new NoSuchElementException("there is no bad choice");
        }
        return choice;
    }

    public boolean byContraction() {
        net.build(bench);
        return net.contracts();
    }

    public boolean byTrips() throws UnsupportedOperationException {
        net.build(bench);
        if (net.joinCount() > MOST_SWITCHES) {
            throw new UnsupportedOperationException("there are too many times and pars");
        }
        return trips.areLong();
    }

    public int splits() throws UnsupportedOperationException {
        net.build(bench);
        requireProof();
        treesOfNet.gather();
        return treesOfNet.countSplits();
    }

    public int trees() throws UnsupportedOperationException {
        net.build(bench);
        requireProof();
        treesOfNet.gather();
        if (treesOfNet.ruleCount() > MOST_SWITCHES) {
            throw new UnsupportedOperationException("there are too many times, pars and cuts");
        }
        return treesOfNet.countAll();
    }

    public int cuts() {
        return bench.cutCount();
    }

    public char step(int cut) throws IndexOutOfBoundsException, UnsupportedOperationException {
        if (cut < 0 || cut >= bench.cutCount()) {
            throw new IndexOutOfBoundsException("there is no such cut");
        }
        if (bench.isRefused(cut)) {
            throw new UnsupportedOperationException("the step is refused");
        }
        return bench.makeStep(cut);
    }

    public int normal() throws UnsupportedOperationException {
        benchOnTrial.copyFrom(bench);
        int steps = benchOnTrial.normalize();
        if (steps == NONE) {
            throw new UnsupportedOperationException("a step is refused");
        }
        bench.copyFrom(benchOnTrial);
        return steps;
    }

    public int walk(int leaf) throws IndexOutOfBoundsException, UnsupportedOperationException {
        letWalk(leaf);
        return bench.walkEnd();
    }

    public int passes(int leaf) throws IndexOutOfBoundsException, UnsupportedOperationException {
        letWalk(leaf);
        return bench.walkLinks();
    }

    public int points(char letter, int many) throws IllegalArgumentException {
        requireLetter(letter);
        if (many < 1 || many > MOST_POINTS) {
            throw new IllegalArgumentException("the number of points is out of range");
        }
        return spaces.changePoints(letter - 'a', many);
    }

    public boolean near(char letter, int one, int other, boolean is) throws IllegalArgumentException {
        requireLetter(letter);
        if (!spaces.hasPoint(letter - 'a', one) || !spaces.hasPoint(letter - 'a', other) || one == other) {
            throw new IllegalArgumentException("there are no two such points");
        }
        return spaces.changeNearness(letter - 'a', one, other, is);
    }

    public int meaning() throws UnsupportedOperationException {
        requireWalks();
        return spaces.countRows();
    }

    public boolean isClique() throws UnsupportedOperationException {
        requireWalks();
        if (spaces.countRows() > MOST_ROWS) {
            throw new UnsupportedOperationException("the meaning has too many rows");
        }
        net.build(bench);
        return spaces.areAllRowsNear(net);
    }

    public int monoid(int size, int pole) throws IllegalArgumentException {
        if (size < 1 || size > MOST_NUMBERS || pole < 0 || pole >= 1 << size) {
            throw new IllegalArgumentException("there is no such monoid");
        }
        int before = monoidNow.size();
        monoidNow.change(size, pole);
        return before;
    }

    public int set(char letter, int numbers) throws IllegalArgumentException {
        requireLetter(letter);
        if (numbers < 0 || numbers >= 1 << monoidNow.size()) {
            throw new IllegalArgumentException("a number is none of the monoid");
        }
        int before = monoidNow.sets.at(letter - 'a');
        monoidNow.sets.put(letter - 'a', numbers);
        return before;
    }

    public int value(int formula) throws IndexOutOfBoundsException {
        requireFormula(formula);
        monoidNow.gather(formula);
        return monoidNow.evaluate(formula);
    }

    public int counter(int formula)
            throws IndexOutOfBoundsException, UnsupportedOperationException, NoSuchElementException {
        requireFormula(formula);
        monoidOnTrial.gather(formula);
        if (monoidOnTrial.letterCount() > MOST_LETTERS_COUNTERED) {
            throw new UnsupportedOperationException("the formula has too many letters");
        }
        if (!monoidOnTrial.refute(formula)) {
            throw new NoSuchElementException("there is no such monoid");
        }
        monoidNow.copyFrom(monoidOnTrial);
        return monoidNow.size();
    }

    public int proofs() throws UnsupportedOperationException {
        requireSearchable();
        net.build(bench);
        search.gather(bench);
        return search.findProofs(net, search.wayCount());
    }

    public int proof(int index) throws UnsupportedOperationException, NoSuchElementException {
        requireSearchable();
        net.build(bench);
        search.gather(bench);
        if (index < 0 || index >= search.wayCount() || search.findProofs(net, index + 1) <= index) {
            throw new NoSuchElementException("there is no such proof");
        }
        bench.leafLinks.copyFrom(search.mates);
        return bench.countLinkedLeaves() / 2;
    }

    public float linkShare() throws ArithmeticException {
        int leaves = bench.countLeaves();
        if (leaves == 0) {
            throw new ArithmeticException("there are no leaves");
        }
        return (float) bench.countLinkedLeaves() / (float) leaves;
    }

    public double meanAtoms() throws ArithmeticException {
        int many = formulas.count();
        if (many == 0) {
            throw new ArithmeticException("there are no formulas");
        }
        int sum = 0;
        for (int formula = 0; formula < many; formula++) {
            sum += formulas.sizes.at(formula);
        }
        return (double) sum / (double) many;
    }

    public long checksum() {
        long sum = 7;
        for (int root = 0; root < MOST_NODES; root++) {
            if (bench.hasRoot(root)) {
                sum = 31 * sum + bench.rootFormulas.at(root);
            }
        }
        for (int leaf = 0; leaf < MOST_LEAVES; leaf++) {
            if (bench.hasLeaf(leaf)) {
                sum = 31 * sum + bench.leafLinks.at(leaf);
            }
        }
        sum = 31 * sum + bench.cutCount();
        return 31 * sum + formulas.count();
    }

    public boolean isTrue() {
        net.build(bench);
        boolean isProof = net.contracts();
        if (!doTestsAnswer(isProof) || !bench.joinsDuals()) {
            return false;
        }
        return !isProof || isMeaningFine() && isNormalFormFine();
    }

    private boolean doTestsAnswer(boolean isProof) {
        if (net.parCount() <= MOST_SWITCHES) {
            boolean isProofByChoices = net.isComplete() && net.firstBadChoice() == NONE;
            if (isProofByChoices != isProof) {
                return false;
            }
        }
        return net.joinCount() > MOST_SWITCHES || trips.areLong() == isProof;
    }

    private boolean isMeaningFine() {
        return spaces.gather(bench) && (spaces.countRows() > MOST_ROWS || spaces.areAllRowsNear(net));
    }

    private boolean isNormalFormFine() {
        benchOnTrial.copyFrom(bench);
        if (benchOnTrial.normalize() == NONE) {
            return false;
        }
        for (int leaf = 0; leaf < MOST_LEAVES; leaf++) {
            if (bench.isOfConclusion(leaf)
                    && !(bench.goFrom(leaf) && benchOnTrial.leafLinks.at(leaf) == bench.walkEnd())) {
                return false;
            }
        }
        net.build(benchOnTrial);
        return net.contracts();
    }

    private int joinFormulas(int kind, int first, int second) {
        requireFormula(first);
        requireFormula(second);
        requireFewAtoms(first, second);
        requireRoom(kind, first, second);
        return formulas.add(kind, first, second);
    }

    private void letWalk(int leaf) {
        requireLeaf(leaf);
        if (!bench.isOfConclusion(leaf)) {
            throw new UnsupportedOperationException("the leaf is of a root that is cut");
        }
        if (!bench.goFrom(leaf)) {
            throw new UnsupportedOperationException("the token comes to a leaf that is not linked");
        }
    }

    private void requireLetter(char letter) {
        if (letter < 'a' || letter >= 'a' + LETTERS) {
            throw new IllegalArgumentException("there is no such letter");
        }
    }

    private void requireFormula(int formula) {
        if (!formulas.has(formula)) {
            throw new IndexOutOfBoundsException("there is no such formula");
        }
    }

    private void requireFewAtoms(int first, int second) {
        if (formulas.sizes.at(first) + formulas.sizes.at(second) > MOST_ATOMS) {
            throw new IllegalArgumentException("the formula would have too many atoms");
        }
    }

    private void requireRoom(int kind, int first, int second) {
        if (formulas.count() >= MOST_FORMULAS && formulas.find(kind, first, second) == NONE) {
            throw new IllegalStateException("there would be too many formulas");
        }
    }

    private void requireDerivation(int derivation) {
        if (!derivations.has(derivation)) {
            throw new IndexOutOfBoundsException("there is no such derivation");
        }
    }

    private void requireConclusion(int derivation, int index) {
        if (!derivations.hasConclusion(derivation, index)) {
            throw new IndexOutOfBoundsException("there is no such derivation or conclusion");
        }
    }

    private void requireUnlike(int derivation, int second) {
        if (derivation == second) {
            throw new IllegalArgumentException("both derivations are the same");
        }
    }

    private void requireUnused(int derivation) {
        if (derivations.isUsed(derivation)) {
            throw new NoSuchElementException("the derivation was used");
        }
    }

    private void requireRoomForDerivation() {
        if (derivations.count() >= MOST_DERIVATIONS) {
            throw new IllegalStateException("there are too many derivations");
        }
    }

    private void requireLeaf(int leaf) {
        if (!bench.hasLeaf(leaf)) {
            throw new IndexOutOfBoundsException("there is no such leaf any more");
        }
    }

    private void requireLinkedLeaf(int leaf) {
        requireLeaf(leaf);
        if (bench.leafLinks.at(leaf) == NONE) {
            throw new NoSuchElementException("the leaf is not linked");
        }
    }

    private void requireRoot(int root) {
        if (!bench.hasRoot(root)) {
            throw new IndexOutOfBoundsException("there is no such root any more");
        }
    }

    private void requireFewPars() {
        if (net.parCount() > MOST_SWITCHES) {
            throw new UnsupportedOperationException("there are too many pars");
        }
    }

    private void requireProof() {
        if (!net.contracts()) {
            throw new UnsupportedOperationException("the net is no proof");
        }
    }

    private void requireWalks() {
        if (!spaces.gather(bench)) {
            throw new UnsupportedOperationException("a token comes to a leaf that is not linked");
        }
    }

    private void requireSearchable() {
        if (bench.cutCount() > 0 || bench.countLeaves() > MOST_SEARCHED_LEAVES) {
            throw new UnsupportedOperationException("there is a cut, or there are too many leaves");
        }
    }

    /** A row of numbers that looks at each place before it touches it: where there is no place, NONE stands. */
    private static final class Row {
        private final int[] cells;

        Row(int length) {
            cells = new int[length < 0 ? 0 : length];
        }

        int at(int place) {
            return place >= 0 && place < cells.length ? cells[place] : NONE;
        }

        void put(int place, int number) {
            if (place >= 0 && place < cells.length) {
                cells[place] = number;
            }
        }

        void fill(int number) {
            for (int place = 0; place < cells.length; place++) {
                cells[place] = number;
            }
        }

        void copyFrom(Row other) {
            for (int place = 0; place < cells.length; place++) {
                cells[place] = other.at(place);
            }
        }
    }

    /** Points that become one, told by a chain from each point to the one that stands for its piece. */
    private static final class Merger {
        private final Row ups = new Row(MOST_NODES);
        private int pieces;

        int pieces() {
            return pieces;
        }

        void reset(int many) {
            pieces = many;
            for (int point = 0; point < MOST_NODES; point++) {
                ups.put(point, point);
            }
        }

        void copyFrom(Merger other) {
            pieces = other.pieces;
            ups.copyFrom(other.ups);
        }

        int find(int point) {
            int top = point;
            for (int links = 0; links < MOST_NODES && ups.at(top) != top; links++) {
                top = ups.at(top);
            }
            return top;
        }

        boolean areOne(int one, int other) {
            return find(one) == find(other);
        }

        /** Answers whether they were two pieces before. */
        boolean unite(int one, int other) {
            int top = find(one);
            int topOfOther = find(other);
            if (top == topOfOther) {
                return false;
            }
            ups.put(topOfOther, top);
            pieces--;
            return true;
        }
    }

    /** All formulas. The parts of a formula have lower numbers than itself. */
    private static final class Formulas {
        final Row kinds = new Row(MOST_FORMULAS);
        final Row firsts = new Row(MOST_FORMULAS);
        final Row seconds = new Row(MOST_FORMULAS);
        final Row sizes = new Row(MOST_FORMULAS);
        private final Row duals = new Row(MOST_FORMULAS);
        private final Row atoms = new Row(MOST_FORMULAS * MOST_ATOMS);
        private final Row marks = new Row(MOST_FORMULAS);
        private int count;

        static int opposite(int kind) {
            if (kind == TIMES || kind == PAR) {
                return kind == TIMES ? PAR : TIMES;
            }
            return kind >= 'a' ? kind - 'a' + 'A' : kind - 'A' + 'a';
        }

        int count() {
            return count;
        }

        boolean has(int formula) {
            return formula >= 0 && formula < count;
        }

        boolean isAtom(int formula) {
            return firsts.at(formula) == NONE;
        }

        boolean isTurned(int atom) {
            return kinds.at(atom) < 'a';
        }

        int letterOf(int atom) {
            return kinds.at(atom) - (isTurned(atom) ? 'A' : 'a');
        }

        /** The atom at a place among the leaves of a formula. */
        int atomAt(int formula, int place) {
            return atoms.at(formula * MOST_ATOMS + place);
        }

        boolean areDual(int one, int other) {
            return has(one) && has(other) && duals.at(one) == other;
        }

        int find(int kind, int first, int second) {
            for (int formula = 0; formula < count; formula++) {
                if (kinds.at(formula) == kind && firsts.at(formula) == first && seconds.at(formula) == second) {
                    return formula;
                }
            }
            return NONE;
        }

        int add(int kind, int first, int second) {
            int found = find(kind, first, second);
            if (found != NONE || count >= MOST_FORMULAS) {
                return found;
            }
            int formula = count;
            count++;
            kinds.put(formula, kind);
            firsts.put(formula, first);
            seconds.put(formula, second);
            sizes.put(formula, 0);
            if (first == NONE) {
                appendAtom(formula, formula);
            } else {
                appendAtoms(formula, first);
                appendAtoms(formula, second);
            }
            tieDual(formula);
            return formula;
        }

        private void appendAtom(int formula, int atom) {
            int size = sizes.at(formula);
            atoms.put(formula * MOST_ATOMS + size, atom);
            sizes.put(formula, size + 1);
        }

        private void appendAtoms(int formula, int part) {
            int many = sizes.at(part);
            for (int place = 0; place < many; place++) {
                appendAtom(formula, atomAt(part, place));
            }
        }

        /** Keeps the duals complete: whichever of two dual formulas comes last finds the other one here. */
        private void tieDual(int formula) {
            int first = isAtom(formula) ? NONE : duals.at(firsts.at(formula));
            int second = isAtom(formula) ? NONE : duals.at(seconds.at(formula));
            int dual = find(opposite(kinds.at(formula)), first, second);
            duals.put(formula, dual);
            duals.put(dual, formula);
        }

        /** How many formulas come when the dual of one is told: those whose duals are missing, among its parts. */
        int missingDuals(int formula) {
            markParts(formula);
            int missing = 0;
            for (int part = 0; part <= formula && part < count; part++) {
                if (marks.at(part) == 1 && duals.at(part) == NONE) {
                    missing++;
                }
            }
            return missing;
        }

        private void markParts(int formula) {
            marks.fill(0);
            marks.put(formula, 1);
            for (int whole = formula; whole >= 0; whole--) {
                if (marks.at(whole) == 1) {
                    marks.put(firsts.at(whole), 1);
                    marks.put(seconds.at(whole), 1);
                }
            }
        }

        /** Writes a formula and all its parts, each one once, parts ahead, and answers how many there are. */
        int listParts(int formula, Row list) {
            markParts(formula);
            int many = 0;
            for (int part = 0; part <= formula && part < count; part++) {
                if (marks.at(part) == 1) {
                    list.put(many, part);
                    many++;
                }
            }
            return many;
        }

        int addDual(int formula) {
            return addDualOfPart(formula, 0);
        }

        private int addDualOfPart(int formula, int depth) {
            if (duals.at(formula) != NONE || depth > MOST_ATOMS) {
                return duals.at(formula);
            }
            int first = NONE;
            int second = NONE;
            if (!isAtom(formula)) {
                first = addDualOfPart(firsts.at(formula), depth + 1);
                second = addDualOfPart(seconds.at(formula), depth + 1);
            }
            return add(opposite(kinds.at(formula)), first, second);
        }
    }

    /**
     * All derivations. Each one keeps its conclusions in order, and behind them both formulas of each of its cuts;
     * and for all leaves of these, in order, the end of an axiom from which the leaf is.
     */
    private static final class Derivations {
        private final Formulas formulas;
        private final Row laid = new Row(MOST_DERIVATIONS * MOST_LEAVES);
        private final Row ends = new Row(MOST_DERIVATIONS * MOST_LEAVES);
        private final Row laidCounts = new Row(MOST_DERIVATIONS);
        private final Row used = new Row(MOST_DERIVATIONS);
        final Row leafCounts = new Row(MOST_DERIVATIONS);
        final Row conclusionCounts = new Row(MOST_DERIVATIONS);
        private int count;

        Derivations(Formulas formulas) {
            this.formulas = formulas;
        }

        int count() {
            return count;
        }

        boolean has(int derivation) {
            return derivation >= 0 && derivation < count;
        }

        boolean hasConclusion(int derivation, int index) {
            return has(derivation) && index >= 0 && index < conclusionCounts.at(derivation);
        }

        boolean isUsed(int derivation) {
            return used.at(derivation) == 1;
        }

        int formulaAt(int derivation, int index) {
            return index >= 0 && index < MOST_LEAVES ? laid.at(derivation * MOST_LEAVES + index) : NONE;
        }

        int addAxiom(int atom, int turned) {
            int made = count;
            appendFormula(atom);
            appendFormula(turned);
            appendEnd(2 * made);
            appendEnd(2 * made + 1);
            conclusionCounts.put(made, 2);
            count++;
            return made;
        }

        int addPar(int derivation, int one, int other, int formula) {
            int made = count;
            copyRange(derivation, 0, conclusionCounts.at(derivation), one, other);
            appendFormula(formula);
            copyEnds(derivation, one);
            copyEnds(derivation, other);
            conclusionCounts.put(made, laidCounts.at(made));
            copyCuts(derivation);
            used.put(derivation, 1);
            count++;
            return made;
        }

        int addTimes(int derivation, int one, int second, int other, int formula) {
            int made = count;
            copyRange(derivation, 0, conclusionCounts.at(derivation), one, NONE);
            copyRange(second, 0, conclusionCounts.at(second), other, NONE);
            appendFormula(formula);
            copyEnds(derivation, one);
            copyEnds(second, other);
            conclusionCounts.put(made, laidCounts.at(made));
            copyCuts(derivation);
            copyCuts(second);
            useBoth(derivation, second);
            count++;
            return made;
        }

        int addCut(int derivation, int one, int second, int other) {
            int made = count;
            copyRange(derivation, 0, conclusionCounts.at(derivation), one, NONE);
            copyRange(second, 0, conclusionCounts.at(second), other, NONE);
            conclusionCounts.put(made, laidCounts.at(made));
            copyCuts(derivation);
            copyCuts(second);
            copyRange(derivation, one, one + 1, NONE, NONE);
            copyRange(second, other, other + 1, NONE, NONE);
            useBoth(derivation, second);
            count++;
            return made;
        }

        private void useBoth(int derivation, int second) {
            used.put(derivation, 1);
            used.put(second, 1);
        }

        private void appendFormula(int formula) {
            int many = laidCounts.at(count);
            laid.put(count * MOST_LEAVES + many, formula);
            laidCounts.put(count, many + 1);
        }

        private void appendEnd(int end) {
            int many = leafCounts.at(count);
            ends.put(count * MOST_LEAVES + many, end);
            leafCounts.put(count, many + 1);
        }

        private void copyRange(int from, int start, int stop, int skipped, int skippedToo) {
            for (int index = start; index < stop && index < MOST_LEAVES; index++) {
                if (index != skipped && index != skippedToo) {
                    appendFormula(formulaAt(from, index));
                    copyEnds(from, index);
                }
            }
        }

        private void copyCuts(int from) {
            copyRange(from, conclusionCounts.at(from), laidCounts.at(from), NONE, NONE);
        }

        private void copyEnds(int from, int index) {
            int base = from * MOST_LEAVES;
            int start = 0;
            for (int before = 0; before < index; before++) {
                start += formulas.sizes.at(laid.at(base + before));
            }
            int stop = start + formulas.sizes.at(laid.at(base + index));
            for (int leaf = start; leaf < stop && leaf < MOST_LEAVES; leaf++) {
                appendEnd(ends.at(base + leaf));
            }
        }

        void layOn(Bench bench, int derivation) {
            int many = laidCounts.at(derivation);
            bench.empty();
            for (int index = 0; index < many; index++) {
                bench.lay(formulaAt(derivation, index));
            }
            layLinks(bench, derivation);
            for (int root = conclusionCounts.at(derivation); root + 1 < many; root += 2) {
                bench.addCut(root, root + 1);
            }
        }

        /** Both ends of an axiom are an even number and the odd one behind it. */
        private void layLinks(Bench bench, int derivation) {
            int base = derivation * MOST_LEAVES;
            int many = leafCounts.at(derivation);
            for (int one = 0; one < many && one < MOST_LEAVES; one++) {
                for (int other = one + 1; other < many && other < MOST_LEAVES; other++) {
                    if (ends.at(base + one) == (ends.at(base + other) ^ 1)) {
                        bench.tie(one, other);
                    }
                }
            }
        }
    }

    /** Roots, leaves, links and cuts. A root has its leaves side by side, from its start on, whatever steps come. */
    private static final class Bench {
        private final Formulas formulas;
        final Row rootFormulas = new Row(MOST_NODES);
        final Row rootStarts = new Row(MOST_NODES);
        private final Row rootCuts = new Row(MOST_NODES);
        final Row leafAtoms = new Row(MOST_LEAVES);
        final Row leafLinks = new Row(MOST_LEAVES);
        private final Row leafRoots = new Row(MOST_LEAVES);
        final Row cutOnes = new Row(MOST_LEAVES);
        final Row cutOthers = new Row(MOST_LEAVES);
        private int rootCount;
        private int leafCount;
        private int cutCount;
        private int walkEnd;
        private int walkLinks;

        Bench(Formulas formulas) {
            this.formulas = formulas;
            empty();
        }

        void empty() {
            rootFormulas.fill(NONE);
            rootCuts.fill(NONE);
            leafAtoms.fill(NONE);
            leafLinks.fill(NONE);
            rootCount = 0;
            leafCount = 0;
            cutCount = 0;
        }

        void copyFrom(Bench other) {
            rootFormulas.copyFrom(other.rootFormulas);
            rootStarts.copyFrom(other.rootStarts);
            rootCuts.copyFrom(other.rootCuts);
            leafAtoms.copyFrom(other.leafAtoms);
            leafLinks.copyFrom(other.leafLinks);
            leafRoots.copyFrom(other.leafRoots);
            cutOnes.copyFrom(other.cutOnes);
            cutOthers.copyFrom(other.cutOthers);
            rootCount = other.rootCount;
            leafCount = other.leafCount;
            cutCount = other.cutCount;
        }

        int leafCount() {
            return leafCount;
        }

        int cutCount() {
            return cutCount;
        }

        int walkEnd() {
            return walkEnd;
        }

        int walkLinks() {
            return walkLinks;
        }

        boolean hasRoot(int root) {
            return rootFormulas.at(root) != NONE;
        }

        boolean hasLeaf(int leaf) {
            return leafAtoms.at(leaf) != NONE;
        }

        boolean isConclusion(int root) {
            return hasRoot(root) && rootCuts.at(root) == NONE;
        }

        boolean isOfConclusion(int leaf) {
            return hasLeaf(leaf) && rootCuts.at(leafRoots.at(leaf)) == NONE;
        }

        int countRoots() {
            int many = 0;
            for (int root = 0; root < rootCount; root++) {
                if (hasRoot(root)) {
                    many++;
                }
            }
            return many;
        }

        int countLeaves() {
            int many = 0;
            for (int leaf = 0; leaf < leafCount; leaf++) {
                if (hasLeaf(leaf)) {
                    many++;
                }
            }
            return many;
        }

        int countLinkedLeaves() {
            int many = 0;
            for (int leaf = 0; leaf < leafCount; leaf++) {
                if (hasLeaf(leaf) && leafLinks.at(leaf) != NONE) {
                    many++;
                }
            }
            return many;
        }

        boolean joinsDuals() {
            for (int leaf = 0; leaf < leafCount; leaf++) {
                int other = leafLinks.at(leaf);
                boolean isLinked = hasLeaf(leaf) && other != NONE;
                boolean isBack = leafLinks.at(other) == leaf;
                if (isLinked && !(isBack && formulas.areDual(leafAtoms.at(leaf), leafAtoms.at(other)))) {
                    return false;
                }
            }
            return true;
        }

        int lay(int formula) {
            int start = leafCount;
            int size = formulas.sizes.at(formula);
            for (int place = 0; place < size; place++) {
                leafAtoms.put(start + place, formulas.atomAt(formula, place));
            }
            leafCount += size;
            return addRoot(formula, start);
        }

        private int addRoot(int formula, int start) {
            int root = rootCount;
            rootCount++;
            rootFormulas.put(root, formula);
            rootStarts.put(root, start);
            int stop = start + formulas.sizes.at(formula);
            for (int leaf = start; leaf < stop; leaf++) {
                leafRoots.put(leaf, root);
            }
            return root;
        }

        void tie(int one, int other) {
            leafLinks.put(one, other);
            leafLinks.put(other, one);
        }

        int untie(int leaf) {
            int other = leafLinks.at(leaf);
            leafLinks.put(leaf, NONE);
            leafLinks.put(other, NONE);
            return other;
        }

        void addCut(int one, int other) {
            cutOnes.put(cutCount, one);
            cutOthers.put(cutCount, other);
            cutCount++;
            rootCuts.put(one, other);
            rootCuts.put(other, one);
        }

        private void removeCut(int cut) {
            cutCount--;
            for (int later = cut; later < cutCount; later++) {
                cutOnes.put(later, cutOnes.at(later + 1));
                cutOthers.put(later, cutOthers.at(later + 1));
            }
        }

        boolean isRefused(int cut) {
            int one = cutOnes.at(cut);
            int leaf = rootStarts.at(one);
            int other = rootStarts.at(cutOthers.at(cut));
            if (!formulas.isAtom(rootFormulas.at(one))) {
                return false;
            }
            return leafLinks.at(leaf) == NONE || leafLinks.at(other) == NONE || leafLinks.at(leaf) == other;
        }

        char makeStep(int cut) {
            int one = cutOnes.at(cut);
            int other = cutOthers.at(cut);
            removeCut(cut);
            boolean isOfAtoms = formulas.isAtom(rootFormulas.at(one));
            if (isOfAtoms) {
                joinLinks(rootStarts.at(one), rootStarts.at(other));
            } else {
                cutParts(one, other);
            }
            rootFormulas.put(one, NONE);
            rootFormulas.put(other, NONE);
            return isOfAtoms ? 'a' : 'b';
        }

        private void joinLinks(int leaf, int otherLeaf) {
            int one = untie(leaf);
            int other = untie(otherLeaf);
            tie(one, other);
            leafAtoms.put(leaf, NONE);
            leafAtoms.put(otherLeaf, NONE);
        }

        private void cutParts(int one, int other) {
            int whole = rootFormulas.at(one);
            int otherWhole = rootFormulas.at(other);
            int start = rootStarts.at(one);
            int otherStart = rootStarts.at(other);
            int firstSize = formulas.sizes.at(formulas.firsts.at(whole));
            int first = addRoot(formulas.firsts.at(whole), start);
            int otherFirst = addRoot(formulas.firsts.at(otherWhole), otherStart);
            int second = addRoot(formulas.seconds.at(whole), start + firstSize);
            int otherSecond = addRoot(formulas.seconds.at(otherWhole), otherStart + firstSize);
            addCut(first, otherFirst);
            addCut(second, otherSecond);
        }

        /** Answers how many steps the normal form took, NONE if one was refused. */
        int normalize() {
            for (int steps = 0; steps < MOST_STEPS; steps++) {
                if (cutCount == 0) {
                    return steps;
                }
                if (isRefused(0)) {
                    return NONE;
                }
                makeStep(0);
            }
            return NONE;
        }

        /** Lets a token walk from a leaf of a conclusion, and answers whether it comes to an end. */
        boolean goFrom(int leaf) {
            int here = leaf;
            for (int links = 1; links <= MOST_LEAVES; links++) {
                here = leafLinks.at(here);
                if (here == NONE) {
                    return false;
                }
                if (isOfConclusion(here)) {
                    walkEnd = here;
                    walkLinks = links;
                    return true;
                }
                here = acrossCut(here);
            }
            return false;
        }

        private int acrossCut(int leaf) {
            int root = leafRoots.at(leaf);
            return rootStarts.at(rootCuts.at(root)) + leaf - rootStarts.at(root);
        }
    }

    /**
     * The graph of all formulas on the bench and their parts, as nodes: by roots, in one a formula ahead of its parts,
     * the first part ahead of the second one.
     */
    private static final class Net {
        final Formulas formulas;
        final Row nodeFormulas = new Row(MOST_NODES);
        final Row firsts = new Row(MOST_NODES);
        final Row seconds = new Row(MOST_NODES);
        final Row wholes = new Row(MOST_NODES);
        final Row leaves = new Row(MOST_NODES);
        final Row links = new Row(MOST_NODES);
        final Row cutRoots = new Row(MOST_NODES);
        final Row joins = new Row(MOST_NODES);
        private final Row pars = new Row(MOST_NODES);
        private final Row nodesOfLeaves = new Row(MOST_LEAVES);
        private final Row nodesOfRoots = new Row(MOST_NODES);
        private final Merger merger = new Merger();
        private final Merger mergerOfChoice = new Merger();
        private int nodeCount;
        private int joinCount;
        private int parCount;
        private boolean isAllLinked;

        Net(Formulas formulas) {
            this.formulas = formulas;
        }

        int nodeCount() {
            return nodeCount;
        }

        int joinCount() {
            return joinCount;
        }

        int parCount() {
            return parCount;
        }

        boolean isPar(int node) {
            return formulas.kinds.at(nodeFormulas.at(node)) == PAR;
        }

        boolean isLeaf(int node) {
            return firsts.at(node) == NONE;
        }

        boolean isComplete() {
            return nodeCount > 0 && isAllLinked;
        }

        void build(Bench bench) {
            nodeCount = 0;
            joinCount = 0;
            parCount = 0;
            nodesOfLeaves.fill(NONE);
            cutRoots.fill(NONE);
            for (int root = 0; root < MOST_NODES; root++) {
                if (bench.hasRoot(root)) {
                    nodesOfRoots.put(root, nodeCount);
                    addTree(bench.rootFormulas.at(root), bench.rootStarts.at(root));
                }
            }
            for (int cut = 0; cut < bench.cutCount(); cut++) {
                int one = nodesOfRoots.at(bench.cutOnes.at(cut));
                int other = nodesOfRoots.at(bench.cutOthers.at(cut));
                cutRoots.put(one, other);
                cutRoots.put(other, one);
            }
            linkBy(bench.leafLinks);
        }

        private void addTree(int formula, int start) {
            int top = nodeCount;
            int stop = top + 2 * formulas.sizes.at(formula) - 1;
            addNode(top, formula, start, NONE);
            for (int node = top; node < stop; node++) {
                addParts(node);
            }
            nodeCount = stop;
        }

        private void addNode(int node, int formula, int start, int whole) {
            nodeFormulas.put(node, formula);
            leaves.put(node, start);
            wholes.put(node, whole);
        }

        /** A part with n leaves has 2n - 1 nodes, so that the second part stands behind those of the first one. */
        private void addParts(int node) {
            int formula = nodeFormulas.at(node);
            int start = leaves.at(node);
            if (formulas.isAtom(formula)) {
                firsts.put(node, NONE);
                seconds.put(node, NONE);
                nodesOfLeaves.put(start, node);
                return;
            }
            int firstSize = formulas.sizes.at(formulas.firsts.at(formula));
            firsts.put(node, node + 1);
            seconds.put(node, node + 2 * firstSize);
            addNode(firsts.at(node), formulas.firsts.at(formula), start, node);
            addNode(seconds.at(node), formulas.seconds.at(formula), start + firstSize, node);
            joins.put(joinCount, node);
            joinCount++;
            if (isPar(node)) {
                pars.put(parCount, node);
                parCount++;
            }
        }

        /** Links the leaves anew, by a row that tells for each leaf the linked one. */
        void linkBy(Row leafLinks) {
            links.fill(NONE);
            isAllLinked = true;
            for (int leaf = 0; leaf < MOST_LEAVES; leaf++) {
                int node = nodesOfLeaves.at(leaf);
                if (node != NONE) {
                    links.put(node, nodesOfLeaves.at(leafLinks.at(leaf)));
                    isAllLinked = isAllLinked && links.at(node) != NONE;
                }
            }
        }

        /** Makes one of all points that times, links and cuts join, and answers whether there is no ring by that. */
        private boolean uniteFixed() {
            merger.reset(nodeCount);
            for (int node = 0; node < nodeCount; node++) {
                boolean isTimes = !isLeaf(node) && !isPar(node);
                if (isTimes && !(merger.unite(node, firsts.at(node)) && merger.unite(node, seconds.at(node)))) {
                    return false;
                }
                if (links.at(node) > node && !merger.unite(node, links.at(node))) {
                    return false;
                }
                if (cutRoots.at(node) > node && !merger.unite(node, cutRoots.at(node))) {
                    return false;
                }
            }
            return true;
        }

        boolean contracts() {
            if (!isComplete() || !uniteFixed()) {
                return false;
            }
            int contracted = 0;
            for (int round = 0; round < parCount; round++) {
                int before = contracted;
                for (int index = 0; index < parCount; index++) {
                    int par = pars.at(index);
                    if (merger.areOne(firsts.at(par), seconds.at(par)) && merger.unite(par, firsts.at(par))) {
                        contracted++;
                    }
                }
                if (contracted == before) {
                    break;
                }
            }
            return contracted == parCount && merger.pieces() == 1;
        }

        /** Answers NONE if there is no bad choice. */
        int firstBadChoice() {
            if (!uniteFixed()) {
                return 0;
            }
            int choices = 1 << Math.min(parCount, MOST_SWITCHES);
            for (int choice = 0; choice < choices; choice++) {
                if (!isTree(choice)) {
                    return choice;
                }
            }
            return NONE;
        }

        private boolean isTree(int choice) {
            mergerOfChoice.copyFrom(merger);
            for (int index = 0; index < parCount; index++) {
                int par = pars.at(index);
                int chosen = (choice >> index & 1) == 1 ? seconds.at(par) : firsts.at(par);
                if (!mergerOfChoice.unite(par, chosen)) {
                    return false;
                }
            }
            return mergerOfChoice.pieces() == 1;
        }
    }

    /** A walker that goes up and down the nodes of a net: an even number is a node up, the odd one behind it down. */
    private static final class Trips {
        private final Net net;
        private final Row turns = new Row(MOST_NODES);

        Trips(Net net) {
            this.net = net;
        }

        /** Whether for all ways to turn one trip goes through all formulas, up and down. */
        boolean areLong() {
            if (!net.isComplete()) {
                return false;
            }
            int many = Math.min(net.joinCount(), MOST_SWITCHES);
            for (int way = 0; way < 1 << many; way++) {
                for (int index = 0; index < many; index++) {
                    turns.put(net.joins.at(index), way >> index & 1);
                }
                if (!isLong()) {
                    return false;
                }
            }
            return true;
        }

        private boolean isLong() {
            int all = 2 * net.nodeCount();
            int here = 0;
            for (int gone = 1; gone <= all; gone++) {
                here = (here & 1) == 0 ? behindUp(here >> 1) : behindDown(here >> 1);
                if (here == 0) {
                    return gone == all;
                }
            }
            return false;
        }

        private int up(int node) {
            return 2 * node;
        }

        private int down(int node) {
            return 2 * node + 1;
        }

        private int behindUp(int node) {
            if (net.isLeaf(node)) {
                return down(net.links.at(node));
            }
            boolean isTurnedToSecond = turns.at(node) == 1;
            boolean goesToSecond = isTurnedToSecond == net.isPar(node);
            return up(goesToSecond ? net.seconds.at(node) : net.firsts.at(node));
        }

        private int behindDown(int node) {
            int whole = net.wholes.at(node);
            if (whole == NONE) {
                return up(net.cutRoots.at(node) == NONE ? node : net.cutRoots.at(node));
            }
            boolean isSecond = net.seconds.at(whole) == node;
            boolean isTurnedToSecond = turns.at(whole) == 1;
            if (isSecond == isTurnedToSecond) {
                return down(whole);
            }
            if (net.isPar(whole)) {
                return up(node);
            }
            return up(isSecond ? net.firsts.at(whole) : net.seconds.at(whole));
        }
    }

    /**
     * The trees of a proof. A piece of it is told by the rules that are left in it, as bits: by these its leaves are
     * known, and a piece without rules is an axiom.
     */
    private static final class Trees {
        private final Net net;
        private final Row nodes = new Row(MOST_NODES);
        private final Row firsts = new Row(MOST_NODES);
        private final Row seconds = new Row(MOST_NODES);
        private final Row users = new Row(MOST_NODES);
        private final Row rulesOfNodes = new Row(MOST_NODES);
        private final Row counts = new Row(1 << MOST_SWITCHES);
        private final Merger linkedLeaves = new Merger();
        private final Merger merger = new Merger();
        private int ruleCount;

        Trees(Net net) {
            this.net = net;
        }

        int ruleCount() {
            return ruleCount;
        }

        /** Reads the rules of the net: its times and pars, and then its cuts. */
        void gather() {
            ruleCount = 0;
            rulesOfNodes.fill(NONE);
            linkedLeaves.reset(net.nodeCount());
            for (int index = 0; index < net.joinCount(); index++) {
                int node = net.joins.at(index);
                rulesOfNodes.put(node, ruleCount);
                addRule(node, net.firsts.at(node), net.seconds.at(node));
            }
            for (int node = 0; node < net.nodeCount(); node++) {
                if (net.cutRoots.at(node) > node) {
                    addRule(NONE, node, net.cutRoots.at(node));
                }
                if (net.links.at(node) > node) {
                    linkedLeaves.unite(node, net.links.at(node));
                }
            }
            findUsers();
        }

        private void addRule(int node, int first, int second) {
            nodes.put(ruleCount, node);
            firsts.put(ruleCount, first);
            seconds.put(ruleCount, second);
            users.put(ruleCount, NONE);
            ruleCount++;
        }

        /** The user of a rule is that one which takes its formula up. */
        private void findUsers() {
            for (int rule = 0; rule < ruleCount; rule++) {
                users.put(rulesOfNodes.at(firsts.at(rule)), rule);
                users.put(rulesOfNodes.at(seconds.at(rule)), rule);
            }
        }

        private boolean isIn(int rule, long piece) {
            return rule != NONE && (piece >> rule & 1) == 1;
        }

        private boolean isPar(int rule) {
            return nodes.at(rule) != NONE && net.isPar(nodes.at(rule));
        }

        private boolean isLast(int rule, long piece) {
            return isIn(rule, piece) && !isIn(users.at(rule), piece);
        }

        /** Whether a times or cut splits a piece; what the merger tells then are both pieces. */
        private boolean doesSplit(int rule, long piece) {
            merger.copyFrom(linkedLeaves);
            for (int other = 0; other < ruleCount; other++) {
                if (other != rule && isIn(other, piece)) {
                    merger.unite(firsts.at(other), seconds.at(other));
                    if (nodes.at(other) != NONE) {
                        merger.unite(nodes.at(other), firsts.at(other));
                    }
                }
            }
            return !merger.areOne(firsts.at(rule), seconds.at(rule));
        }

        int countSplits() {
            long all = (1L << ruleCount) - 1;
            int many = 0;
            for (int rule = 0; rule < ruleCount; rule++) {
                if (!isPar(rule) && isLast(rule, all) && doesSplit(rule, all)) {
                    many++;
                }
            }
            return many;
        }

        int countAll() {
            counts.fill(NONE);
            return count((1 << ruleCount) - 1, 0);
        }

        private int count(int piece, int depth) {
            if (piece == 0) {
                return 1;
            }
            if (counts.at(piece) != NONE || depth > MOST_SWITCHES) {
                return counts.at(piece);
            }
            int many = 0;
            for (int rule = 0; rule < ruleCount; rule++) {
                if (!isLast(rule, piece)) {
                    continue;
                }
                int rest = piece & ~(1 << rule);
                if (isPar(rule)) {
                    many += count(rest, depth + 1);
                } else if (doesSplit(rule, piece)) {
                    int first = rulesAtFirst(rule, rest);
                    many += count(first, depth + 1) * count(rest & ~first, depth + 1);
                }
            }
            counts.put(piece, many);
            return many;
        }

        /** The rules that stand in the piece of the first part of a rule which splits. */
        private int rulesAtFirst(int rule, int rest) {
            int rules = 0;
            for (int other = 0; other < ruleCount; other++) {
                if (isIn(other, rest) && merger.areOne(firsts.at(other), firsts.at(rule))) {
                    rules |= 1 << other;
                }
            }
            return rules;
        }
    }

    /** The points of letters, and what the net on the bench means by them. */
    private static final class Spaces {
        private static final int ALIKE = 0;
        private static final int NEAR = 1;
        private static final int FAR = -1;

        private final Formulas formulas;
        private final Row manies = new Row(LETTERS);
        private final Row nearPairs = new Row(LETTERS);
        private final Row walksOfLeaves = new Row(MOST_LEAVES);
        private final Row lettersOfWalks = new Row(MOST_LEAVES);
        private final Row walkBonds = new Row(MOST_LEAVES);
        private final Row nodeBonds = new Row(MOST_NODES);
        private int walkCount;

        Spaces(Formulas formulas) {
            this.formulas = formulas;
            manies.fill(2);
        }

        boolean hasPoint(int letter, int point) {
            return point >= 0 && point < manies.at(letter);
        }

        int changePoints(int letter, int many) {
            int before = manies.at(letter);
            manies.put(letter, many);
            nearPairs.put(letter, 0);
            return before;
        }

        /** Of points below three the pairs have the sums 1, 2 and 3, each another one. */
        boolean changeNearness(int letter, int one, int other, boolean areNear) {
            int pair = 1 << one + other - 1;
            int before = nearPairs.at(letter);
            nearPairs.put(letter, areNear ? before | pair : before & ~pair);
            return (before & pair) != 0;
        }

        private boolean hasNearPair(int letter) {
            return nearPairs.at(letter) != 0;
        }

        private boolean hasFarPair(int letter) {
            int many = manies.at(letter);
            int allPairs = (1 << many * (many - 1) / 2) - 1;
            return nearPairs.at(letter) != allPairs;
        }

        /** Numbers all walks between leaves of conclusions, and answers whether each token comes to an end. */
        boolean gather(Bench bench) {
            walkCount = 0;
            walksOfLeaves.fill(NONE);
            for (int leaf = 0; leaf < bench.leafCount(); leaf++) {
                if (!bench.isOfConclusion(leaf)) {
                    continue;
                }
                if (!bench.goFrom(leaf)) {
                    return false;
                }
                if (walksOfLeaves.at(leaf) == NONE) {
                    walksOfLeaves.put(leaf, walkCount);
                    walksOfLeaves.put(bench.walkEnd(), walkCount);
                    lettersOfWalks.put(walkCount, formulas.letterOf(bench.leafAtoms.at(leaf)));
                    walkCount++;
                }
            }
            return true;
        }

        int countRows() {
            int rows = 1;
            for (int walk = 0; walk < walkCount; walk++) {
                rows *= manies.at(lettersOfWalks.at(walk));
            }
            return rows;
        }

        /**
         * Two rows are alike, near or far at each walk, at each one whatever they are at others. So all bonds that two
         * points of the letters can have are tried, not all pairs of rows; the try 0 has rows that are alike.
         */
        boolean areAllRowsNear(Net net) {
            int tries = 1;
            for (int walk = 0; walk < walkCount; walk++) {
                tries *= countBonds(lettersOfWalks.at(walk));
            }
            for (int choice = 1; choice < tries; choice++) {
                bindWalks(choice);
                bindNodes(net);
                if (!isSomeConclusionNear(net)) {
                    return false;
                }
            }
            return true;
        }

        private int countBonds(int letter) {
            return 1 + (hasNearPair(letter) ? 1 : 0) + (hasFarPair(letter) ? 1 : 0);
        }

        private void bindWalks(int choice) {
            int rest = choice;
            for (int walk = 0; walk < walkCount; walk++) {
                int letter = lettersOfWalks.at(walk);
                int many = Math.max(1, countBonds(letter));
                int bond = rest % many;
                rest /= many;
                if (bond == 0) {
                    walkBonds.put(walk, ALIKE);
                } else {
                    walkBonds.put(walk, bond == 1 && hasNearPair(letter) ? NEAR : FAR);
                }
            }
        }

        private void bindNodes(Net net) {
            for (int node = net.nodeCount() - 1; node >= 0; node--) {
                if (net.isLeaf(node)) {
                    int bond = walkBonds.at(walksOfLeaves.at(net.leaves.at(node)));
                    nodeBonds.put(node, formulas.isTurned(net.nodeFormulas.at(node)) ? -bond : bond);
                } else {
                    int first = nodeBonds.at(net.firsts.at(node));
                    int second = nodeBonds.at(net.seconds.at(node));
                    nodeBonds.put(node, bondOfBoth(net.isPar(node) ? NEAR : FAR, first, second));
                }
            }
        }

        private int bondOfBoth(int stronger, int first, int second) {
            return first == ALIKE || second == stronger ? second : first;
        }

        private boolean isSomeConclusionNear(Net net) {
            for (int node = 0; node < net.nodeCount(); node++) {
                boolean isConclusion = net.wholes.at(node) == NONE && net.cutRoots.at(node) == NONE;
                if (isConclusion && nodeBonds.at(node) == NEAR) {
                    return true;
                }
            }
            return false;
        }
    }

    /** A search for all proofs: the ways to link leaves two by two are numbered, in the order that is due. */
    private static final class Search {
        private final Formulas formulas;
        private final Row leaves = new Row(MOST_LEAVES);
        private final Row atoms = new Row(MOST_LEAVES);
        final Row mates = new Row(MOST_LEAVES);
        private int leafCount;
        private int wayCount;

        Search(Formulas formulas) {
            this.formulas = formulas;
        }

        int wayCount() {
            return wayCount;
        }

        void gather(Bench bench) {
            leafCount = 0;
            for (int leaf = 0; leaf < bench.leafCount(); leaf++) {
                if (bench.hasLeaf(leaf)) {
                    leaves.put(leafCount, leaf);
                    leafCount++;
                }
            }
            atoms.copyFrom(bench.leafAtoms);
            wayCount = leafCount % 2 == 0 ? 1 : 0;
            for (int left = leafCount; left > 1; left -= 2) {
                wayCount *= left - 1;
            }
        }

        /** Looks for proofs until so many are found, and answers how many were; the mates are those of the last one. */
        int findProofs(Net net, int most) {
            int found = 0;
            for (int way = 0; way < wayCount && found < most; way++) {
                if (pair(way)) {
                    net.linkBy(mates);
                    found += net.contracts() ? 1 : 0;
                }
            }
            return found;
        }

        /** Pairs the leaves in one of all ways, and answers whether each two are dual. */
        private boolean pair(int way) {
            mates.fill(NONE);
            int rest = way;
            int waysLeft = wayCount;
            for (int left = leafCount; left > 1; left -= 2) {
                waysLeft = Math.max(1, waysLeft / (left - 1));
                int one = freeLeaf(0);
                int other = freeLeaf(1 + rest / waysLeft);
                rest %= waysLeft;
                if (!formulas.areDual(atoms.at(one), atoms.at(other))) {
                    return false;
                }
                mates.put(one, other);
                mates.put(other, one);
            }
            return true;
        }

        private int freeLeaf(int rank) {
            int before = 0;
            for (int index = 0; index < leafCount; index++) {
                int leaf = leaves.at(index);
                if (mates.at(leaf) == NONE) {
                    if (before == rank) {
                        return leaf;
                    }
                    before++;
                }
            }
            return NONE;
        }
    }

    /** A monoid with a pole and the sets of letters; a set is told as bits. */
    private static final class Monoid {
        private final Formulas formulas;
        final Row sets = new Row(LETTERS);
        private final Row parts = new Row(MOST_FORMULAS);
        private final Row values = new Row(MOST_FORMULAS);
        private final Row letters = new Row(LETTERS);
        private final Row duals = new Row(1 << MOST_NUMBERS);
        private int size;
        private int pole;
        private int partCount;
        private int letterCount;

        Monoid(Formulas formulas) {
            this.formulas = formulas;
            change(1, 0);
        }

        int size() {
            return size;
        }

        int letterCount() {
            return letterCount;
        }

        void change(int newSize, int newPole) {
            size = newSize;
            pole = newPole;
            sets.fill(0);
            for (int set = 0; set < 1 << size; set++) {
                duals.put(set, findDual(set));
            }
        }

        void copyFrom(Monoid other) {
            change(other.size, other.pole);
            sets.copyFrom(other.sets);
        }

        /** Lists the parts of a formula that is to be evaluated, and its letters, the lowest ahead. */
        void gather(int formula) {
            partCount = formulas.listParts(formula, parts);
            letterCount = 0;
            for (int letter = 0; letter < LETTERS; letter++) {
                if (hasLetter(letter)) {
                    letters.put(letterCount, letter);
                    letterCount++;
                }
            }
        }

        private boolean hasLetter(int letter) {
            for (int index = 0; index < partCount; index++) {
                int part = parts.at(index);
                if (formulas.isAtom(part) && formulas.letterOf(part) == letter) {
                    return true;
                }
            }
            return false;
        }

        /** All numbers of a set, each with one and the same number added to it. */
        private int shifted(int set, int added) {
            int all = (1 << size) - 1;
            return (set << added | set >> size - added) & all;
        }

        private int findDual(int set) {
            int found = (1 << size) - 1;
            for (int number = 0; number < size; number++) {
                if ((set >> number & 1) == 1) {
                    found &= shifted(pole, size - number);
                }
            }
            return found;
        }

        private int sumOf(int set, int other) {
            int found = 0;
            for (int number = 0; number < size; number++) {
                if ((set >> number & 1) == 1) {
                    found |= shifted(other, number);
                }
            }
            return found;
        }

        /** The value of a formula that has been gathered. */
        int evaluate(int formula) {
            for (int index = 0; index < partCount; index++) {
                int part = parts.at(index);
                values.put(part, formulas.isAtom(part) ? valueOfAtom(part) : valueOfJoin(part));
            }
            return values.at(formula);
        }

        private int valueOfAtom(int atom) {
            int dual = duals.at(sets.at(formulas.letterOf(atom)));
            int plain = duals.at(dual);
            return formulas.isTurned(atom) ? duals.at(plain) : plain;
        }

        private int valueOfJoin(int formula) {
            int first = values.at(formulas.firsts.at(formula));
            int second = values.at(formulas.seconds.at(formula));
            if (formulas.kinds.at(formula) == PAR) {
                return duals.at(sumOf(duals.at(first), duals.at(second)));
            }
            return duals.at(duals.at(sumOf(first, second)));
        }

        /** Becomes the first monoid in which a formula that has been gathered does not hold, if there is one. */
        boolean refute(int formula) {
            int lettersTold = Math.min(letterCount, MOST_LETTERS_COUNTERED);
            for (int newSize = 1; newSize <= MOST_NUMBERS; newSize++) {
                for (int newPole = 0; newPole < 1 << newSize; newPole++) {
                    change(newSize, newPole);
                    for (int choice = 0; choice < 1 << newSize * lettersTold; choice++) {
                        tellSets(choice);
                        if ((evaluate(formula) & 1) == 0) {
                            return true;
                        }
                    }
                }
            }
            return false;
        }

        /** The set of the lowest letter is the highest in the choice, so that it changes last. */
        private void tellSets(int choice) {
            int rest = choice;
            for (int index = letterCount - 1; index >= 0; index--) {
                sets.put(letters.at(index), rest & (1 << size) - 1);
                rest >>= size;
            }
        }
    }
}
