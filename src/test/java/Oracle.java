import java.util.ArrayList;
import java.util.HashMap;
import java.util.HashSet;
import java.util.List;
import java.util.Map;
import java.util.NoSuchElementException;
import java.util.Set;
import java.util.TreeMap;

/** The document once more, written as slowly and plainly as can be, with texts, lists and sets. */
final class Oracle {
    static final class Formula {
        final char kind;
        final Formula first;
        final Formula second;
        final String text;

        Formula(char kind, Formula first, Formula second) {
            this.kind = kind;
            this.first = first;
            this.second = second;
            text = first == null ? "" + kind : "(" + first.text + kind + second.text + ")";
        }

        Formula dual() {
            if (first == null) {
                boolean isPlain = Character.isLowerCase(kind);
                return new Formula(isPlain ? Character.toUpperCase(kind) : Character.toLowerCase(kind), null, null);
            }
            return new Formula(kind == '*' ? '|' : '*', first.dual(), second.dual());
        }

        List<Formula> atoms() {
            List<Formula> atoms = new ArrayList<>();
            if (first == null) {
                atoms.add(this);
            } else {
                atoms.addAll(first.atoms());
                atoms.addAll(second.atoms());
            }
            return atoms;
        }

        boolean isDualOf(Formula other) {
            return dual().text.equals(other.text);
        }
    }

    /** One end of an axiom. */
    static final class End {
        End partner;
    }

    static final class Occurrence {
        final Formula formula;
        final List<End> ends;

        Occurrence(Formula formula, List<End> ends) {
            this.formula = formula;
            this.ends = ends;
        }
    }

    static final class Derivation {
        final List<Occurrence> conclusions = new ArrayList<>();
        final List<Occurrence> cut = new ArrayList<>();
        boolean isUsed;
    }

    static final class Node {
        Formula formula;
        Node first;
        Node second;
        Node whole;
        int leaf;
        int root;
    }

    static final class Root {
        Formula formula;
        List<Integer> leaves = new ArrayList<>();
    }

    final List<Formula> formulas = new ArrayList<>();
    final List<Derivation> derivations = new ArrayList<>();
    TreeMap<Integer, Root> roots = new TreeMap<>();
    TreeMap<Integer, Formula> leaves = new TreeMap<>();
    TreeMap<Integer, Integer> links = new TreeMap<>();
    List<int[]> cuts = new ArrayList<>();
    int rootsCome;
    int leavesCome;
    final int[] points = {2, 2, 2, 2, 2};
    final boolean[][][] near = new boolean[5][3][3];
    int size = 1;
    int pole;
    int[] sets = new int[5];

    // ------------------------------------------------------------ formulas

    private int find(Formula formula) {
        for (int number = 0; number < formulas.size(); number++) {
            if (formulas.get(number).text.equals(formula.text)) {
                return number;
            }
        }
        return -1;
    }

    private int tell(Formula formula) {
        int found = find(formula);
        if (found >= 0) {
            return found;
        }
        if (formulas.size() == 60) {
            throw new IllegalStateException();
        }
        formulas.add(formula);
        return formulas.size() - 1;
    }

    private Formula formula(int number) {
        if (number < 0 || number >= formulas.size()) {
            throw new IndexOutOfBoundsException();
        }
        return formulas.get(number);
    }

    private void needLetter(char letter) {
        if ("abcde".indexOf(letter) < 0) {
            throw new IllegalArgumentException();
        }
    }

    int atom(char letter, boolean isTurned) {
        needLetter(letter);
        return tell(new Formula(isTurned ? Character.toUpperCase(letter) : letter, null, null));
    }

    int join(char kind, int first, int second) {
        Formula joined = new Formula(kind, formula(first), formula(second));
        if (joined.atoms().size() > 12) {
            throw new IllegalArgumentException();
        }
        return tell(joined);
    }

    int dual(int number) {
        Formula dual = formula(number).dual();
        List<Formula> before = new ArrayList<>(formulas);
        try {
            return tellAll(dual);
        } catch (IllegalStateException e) {
            formulas.clear();
            formulas.addAll(before);
            throw e;
        }
    }

    private int tellAll(Formula formula) {
        if (find(formula) < 0 && formula.first != null) {
            tellAll(formula.first);
            tellAll(formula.second);
        }
        return tell(formula);
    }

    char kind(int number) {
        return formula(number).kind;
    }

    int part(int number, boolean isSecond) {
        Formula formula = formula(number);
        if (formula.first == null) {
            throw new NoSuchElementException();
        }
        return find(isSecond ? formula.second : formula.first);
    }

    // ------------------------------------------------------------ derivations

    private Derivation derivation(int number) {
        if (number < 0 || number >= derivations.size()) {
            throw new IndexOutOfBoundsException();
        }
        return derivations.get(number);
    }

    private Occurrence occurrence(int derivation, int index) {
        List<Occurrence> all = derivation(derivation).conclusions;
        if (index < 0 || index >= all.size()) {
            throw new IndexOutOfBoundsException();
        }
        return all.get(index);
    }

    private int keep(Derivation made) {
        derivations.add(made);
        return derivations.size() - 1;
    }

    private void needRoom() {
        if (derivations.size() == 24) {
            throw new IllegalStateException();
        }
    }

    private Occurrence joined(char kind, Occurrence one, Occurrence other) {
        List<End> ends = new ArrayList<>(one.ends);
        ends.addAll(other.ends);
        return new Occurrence(formulas.get(tell(new Formula(kind, one.formula, other.formula))), ends);
    }

    private static void needFew(Occurrence one, Occurrence other) {
        if (one.ends.size() + other.ends.size() > 12) {
            throw new IllegalArgumentException();
        }
    }

    int axiom(int number) {
        Formula atom = formula(number);
        if (atom.first != null) {
            throw new UnsupportedOperationException();
        }
        needRoom();
        Formula turned = formulas.get(tell(atom.dual()));
        End one = new End();
        End other = new End();
        one.partner = other;
        other.partner = one;
        Derivation made = new Derivation();
        made.conclusions.add(new Occurrence(atom, List.of(one)));
        made.conclusions.add(new Occurrence(turned, List.of(other)));
        return keep(made);
    }

    int joinPar(int number, int one, int other) {
        Occurrence first = occurrence(number, one);
        Occurrence second = occurrence(number, other);
        if (one == other) {
            throw new IllegalArgumentException();
        }
        needFew(first, second);
        Derivation old = derivation(number);
        if (old.isUsed) {
            throw new NoSuchElementException();
        }
        needRoom();
        Occurrence par = joined('|', first, second);
        Derivation made = new Derivation();
        made.conclusions.addAll(old.conclusions);
        made.conclusions.remove(first);
        made.conclusions.remove(second);
        made.conclusions.add(par);
        made.cut.addAll(old.cut);
        old.isUsed = true;
        return keep(made);
    }

    int joinTwo(boolean isCut, int number, int one, int secondNumber, int other) {
        Occurrence first = occurrence(number, one);
        Occurrence second = occurrence(secondNumber, other);
        if (number == secondNumber) {
            throw new IllegalArgumentException();
        }
        if (!isCut) {
            needFew(first, second);
        }
        Derivation left = derivation(number);
        Derivation right = derivation(secondNumber);
        if (left.isUsed || right.isUsed) {
            throw new NoSuchElementException();
        }
        if (isCut && !first.formula.isDualOf(second.formula)) {
            throw new UnsupportedOperationException();
        }
        needRoom();
        Derivation made = new Derivation();
        made.conclusions.addAll(left.conclusions);
        made.conclusions.addAll(right.conclusions);
        made.conclusions.remove(first);
        made.conclusions.remove(second);
        made.cut.addAll(left.cut);
        made.cut.addAll(right.cut);
        if (isCut) {
            made.cut.add(first);
            made.cut.add(second);
        } else {
            made.conclusions.add(joined('*', first, second));
        }
        left.isUsed = true;
        right.isUsed = true;
        return keep(made);
    }

    int conclusions(int number) {
        return derivation(number).conclusions.size();
    }

    int conclusion(int number, int index) {
        Derivation derivation = derivation(number);
        if (index < 0 || index >= derivation.conclusions.size()) {
            throw new NoSuchElementException();
        }
        return find(derivation.conclusions.get(index).formula);
    }

    int take(int number) {
        Derivation derivation = derivation(number);
        clear();
        Map<End, Integer> numbers = new HashMap<>();
        List<Occurrence> all = new ArrayList<>(derivation.conclusions);
        all.addAll(derivation.cut);
        for (Occurrence occurrence : all) {
            int leaf = leavesCome;
            place(find(occurrence.formula));
            for (End end : occurrence.ends) {
                numbers.put(end, leaf);
                leaf++;
            }
        }
        for (Map.Entry<End, Integer> entry : numbers.entrySet()) {
            links.put(entry.getValue(), numbers.get(entry.getKey().partner));
        }
        for (int root = derivation.conclusions.size(); root < all.size(); root += 2) {
            cuts.add(new int[] {root, root + 1});
        }
        return links.size() / 2;
    }

    // ------------------------------------------------------------ the bench

    private Root root(int number) {
        if (!roots.containsKey(number)) {
            throw new IndexOutOfBoundsException();
        }
        return roots.get(number);
    }

    private Formula leaf(int number) {
        if (!leaves.containsKey(number)) {
            throw new IndexOutOfBoundsException();
        }
        return leaves.get(number);
    }

    int place(int number) {
        Formula formula = formula(number);
        if (leavesCome + formula.atoms().size() > 24) {
            throw new IllegalStateException();
        }
        Root root = new Root();
        root.formula = formula;
        for (Formula atom : formula.atoms()) {
            root.leaves.add(leavesCome);
            leaves.put(leavesCome, atom);
            leavesCome++;
        }
        return come(root);
    }

    private int come(Root root) {
        roots.put(rootsCome, root);
        rootsCome++;
        return rootsCome - 1;
    }

    int link(int one, int other) {
        Formula first = leaf(one);
        Formula second = leaf(other);
        if (!first.isDualOf(second) || links.containsKey(one) || links.containsKey(other)) {
            throw new UnsupportedOperationException();
        }
        links.put(one, other);
        links.put(other, one);
        return links.size() / 2;
    }

    int unlink(int number) {
        int other = linked(number);
        links.remove(number);
        links.remove(other);
        return other;
    }

    int linked(int number) {
        leaf(number);
        if (!links.containsKey(number)) {
            throw new NoSuchElementException();
        }
        return links.get(number);
    }

    private int acrossCut(int root) {
        for (int[] cut : cuts) {
            if (cut[0] == root || cut[1] == root) {
                return cut[0] == root ? cut[1] : cut[0];
            }
        }
        return -1;
    }

    int cut(int one, int other) {
        Root first = root(one);
        Root second = root(other);
        if (!first.formula.isDualOf(second.formula) || acrossCut(one) >= 0 || acrossCut(other) >= 0) {
            throw new UnsupportedOperationException();
        }
        cuts.add(new int[] {one, other});
        return cuts.size();
    }

    int clear() {
        int come = leavesCome;
        roots.clear();
        leaves.clear();
        links.clear();
        cuts.clear();
        rootsCome = 0;
        leavesCome = 0;
        return come;
    }

    int rootAt(int number) {
        return find(root(number).formula);
    }

    // ------------------------------------------------------------ proofs

    private List<Node> nodes() {
        List<Node> nodes = new ArrayList<>();
        for (Map.Entry<Integer, Root> entry : roots.entrySet()) {
            grow(nodes, entry.getValue().formula, null, new ArrayList<>(entry.getValue().leaves), entry.getKey());
        }
        return nodes;
    }

    private Node grow(List<Node> nodes, Formula formula, Node whole, List<Integer> left, int root) {
        Node node = new Node();
        node.formula = formula;
        node.whole = whole;
        node.root = root;
        node.leaf = -1;
        nodes.add(node);
        if (formula.first == null) {
            node.leaf = left.remove(0);
        } else {
            node.first = grow(nodes, formula.first, node, left, root);
            node.second = grow(nodes, formula.second, node, left, root);
        }
        return node;
    }

    private static List<Node> joins(List<Node> nodes, String kinds) {
        List<Node> found = new ArrayList<>();
        for (Node node : nodes) {
            if (kinds.indexOf(node.formula.kind) >= 0) {
                found.add(node);
            }
        }
        return found;
    }

    private static Node leafNode(List<Node> nodes, int leaf) {
        for (Node node : nodes) {
            if (node.leaf == leaf) {
                return node;
            }
        }
        throw new IllegalStateException("no leaf " + leaf);
    }

    private static Node rootNode(List<Node> nodes, int root) {
        for (Node node : nodes) {
            if (node.root == root && node.whole == null) {
                return node;
            }
        }
        throw new IllegalStateException("no root " + root);
    }

    private boolean isComplete() {
        return !roots.isEmpty() && links.size() == leaves.size();
    }

    private List<Node[]> fixedEdges(List<Node> nodes) {
        List<Node[]> edges = new ArrayList<>();
        for (Node node : joins(nodes, "*")) {
            edges.add(new Node[] {node, node.first});
            edges.add(new Node[] {node, node.second});
        }
        for (Map.Entry<Integer, Integer> link : links.entrySet()) {
            if (link.getKey() < link.getValue()) {
                edges.add(new Node[] {leafNode(nodes, link.getKey()), leafNode(nodes, link.getValue())});
            }
        }
        for (int[] cut : cuts) {
            edges.add(new Node[] {rootNode(nodes, cut[0]), rootNode(nodes, cut[1])});
        }
        return edges;
    }

    private static Set<Node> reached(Node start, List<Node[]> edges) {
        Set<Node> reached = new HashSet<>();
        reached.add(start);
        boolean grew = true;
        while (grew) {
            grew = false;
            for (Node[] edge : edges) {
                if (reached.contains(edge[0]) != reached.contains(edge[1])) {
                    reached.add(edge[0]);
                    reached.add(edge[1]);
                    grew = true;
                }
            }
        }
        return reached;
    }

    private int firstBad() {
        List<Node> nodes = nodes();
        List<Node> pars = joins(nodes, "|");
        for (int choice = 0; choice < 1 << pars.size(); choice++) {
            List<Node[]> edges = fixedEdges(nodes);
            for (int index = 0; index < pars.size(); index++) {
                Node par = pars.get(index);
                edges.add(new Node[] {par, (choice & 1 << index) != 0 ? par.second : par.first});
            }
            boolean isConnected = reached(nodes.get(0), edges).size() == nodes.size();
            if (!isConnected || edges.size() != nodes.size() - 1) {
                return choice;
            }
        }
        return -1;
    }

    private void needFewPars() {
        if (joins(nodes(), "|").size() > 10) {
            throw new UnsupportedOperationException();
        }
    }

    boolean byChoices() {
        needFewPars();
        return isComplete() && firstBad() < 0;
    }

    int badChoice() {
        needFewPars();
        if (!isComplete() || firstBad() < 0) {
            throw new NoSuchElementException();
        }
        return firstBad();
    }

    boolean byContraction() {
        if (!isComplete()) {
            return false;
        }
        List<Node> nodes = nodes();
        Map<Node, Integer> point = new HashMap<>();
        for (Node node : nodes) {
            point.put(node, point.size());
        }
        for (Node[] edge : fixedEdges(nodes)) {
            if (point.get(edge[0]).equals(point.get(edge[1]))) {
                return false;
            }
            merge(point, edge[0], edge[1]);
        }
        List<Node> pars = joins(nodes, "|");
        boolean grew = true;
        while (grew) {
            grew = false;
            for (Node par : new ArrayList<>(pars)) {
                if (point.get(par.first).equals(point.get(par.second))
                        && !point.get(par).equals(point.get(par.first))) {
                    merge(point, par, par.first);
                    pars.remove(par);
                    grew = true;
                }
            }
        }
        return pars.isEmpty() && new HashSet<>(point.values()).size() == 1;
    }

    private static void merge(Map<Node, Integer> point, Node one, Node other) {
        int gone = point.get(other);
        int left = point.get(one);
        for (Map.Entry<Node, Integer> entry : point.entrySet()) {
            if (entry.getValue() == gone) {
                entry.setValue(left);
            }
        }
    }

    boolean byTrips() {
        List<Node> nodes = nodes();
        List<Node> joins = joins(nodes, "*|");
        if (joins.size() > 10) {
            throw new UnsupportedOperationException();
        }
        if (!isComplete()) {
            return false;
        }
        for (int way = 0; way < 1 << joins.size(); way++) {
            Map<Node, Node> behindUp = new HashMap<>();
            Map<Node, Node> behindDown = new HashMap<>();
            Set<Node> turnsBack = new HashSet<>();
            for (Node node : nodes) {
                if (node.leaf >= 0) {
                    behindUp.put(node, leafNode(nodes, links.get(node.leaf)));
                }
                if (node.whole == null) {
                    int across = acrossCut(node.root);
                    behindDown.put(node, across < 0 ? node : rootNode(nodes, across));
                    turnsBack.add(node);
                }
            }
            for (int index = 0; index < joins.size(); index++) {
                Node join = joins.get(index);
                boolean isToSecond = (way & 1 << index) != 0;
                Node turned = isToSecond ? join.second : join.first;
                Node other = isToSecond ? join.first : join.second;
                behindDown.put(turned, join);
                if (join.formula.kind == '*') {
                    behindDown.put(other, turned);
                    turnsBack.add(other);
                    behindUp.put(join, other);
                } else {
                    behindDown.put(other, other);
                    turnsBack.add(other);
                    behindUp.put(join, turned);
                }
            }
            if (!isLong(nodes, behindUp, behindDown, turnsBack)) {
                return false;
            }
        }
        return true;
    }

    private static boolean isLong(List<Node> nodes, Map<Node, Node> behindUp, Map<Node, Node> behindDown,
            Set<Node> turnsBack) {
        Set<Node> wereUp = new HashSet<>();
        Set<Node> wereDown = new HashSet<>();
        Node here = nodes.get(0);
        boolean isUp = true;
        while (!(isUp ? wereUp : wereDown).contains(here)) {
            (isUp ? wereUp : wereDown).add(here);
            if (isUp) {
                isUp = here.leaf < 0;
                here = behindUp.get(here);
            } else {
                isUp = turnsBack.contains(here);
                here = behindDown.get(here);
            }
        }
        return wereUp.size() == nodes.size() && wereDown.size() == nodes.size();
    }

    // ------------------------------------------------------------ trees

    /** A rule is told by its three nodes, of a cut by both roots and no whole. */
    private List<Node[]> rules(List<Node> nodes) {
        List<Node[]> rules = new ArrayList<>();
        for (Node node : joins(nodes, "*|")) {
            rules.add(new Node[] {node, node.first, node.second});
        }
        for (int[] cut : cuts) {
            rules.add(new Node[] {null, rootNode(nodes, cut[0]), rootNode(nodes, cut[1])});
        }
        return rules;
    }

    private List<Node[]> edgesOf(List<Node> nodes, List<Node[]> rules) {
        List<Node[]> edges = new ArrayList<>();
        for (Map.Entry<Integer, Integer> link : links.entrySet()) {
            edges.add(new Node[] {leafNode(nodes, link.getKey()), leafNode(nodes, link.getValue())});
        }
        for (Node[] rule : rules) {
            edges.add(new Node[] {rule[1], rule[2]});
            if (rule[0] != null) {
                edges.add(new Node[] {rule[0], rule[1]});
            }
        }
        return edges;
    }

    private static boolean isConclusion(Node node, List<Node[]> rules) {
        for (Node[] rule : rules) {
            if (rule[1] == node || rule[2] == node) {
                return false;
            }
        }
        return true;
    }

    /** The rules on the side of the first part, null if this rule does not split. */
    private List<Node[]> split(List<Node> nodes, List<Node[]> rules, Node[] rule) {
        List<Node[]> rest = new ArrayList<>(rules);
        rest.remove(rule);
        Set<Node> side = reached(rule[1], edgesOf(nodes, rest));
        if (side.contains(rule[2])) {
            return null;
        }
        rest.removeIf(other -> !side.contains(other[1]));
        return rest;
    }

    int splits() {
        if (!byContraction()) {
            throw new UnsupportedOperationException();
        }
        List<Node> nodes = nodes();
        List<Node[]> rules = rules(nodes);
        int many = 0;
        for (Node[] rule : rules) {
            boolean isPar = rule[0] != null && rule[0].formula.kind == '|';
            if (!isPar && (rule[0] == null || isConclusion(rule[0], rules)) && split(nodes, rules, rule) != null) {
                many++;
            }
        }
        return many;
    }

    int trees() {
        List<Node> nodes = nodes();
        List<Node[]> rules = rules(nodes);
        if (!byContraction() || rules.size() > 10) {
            throw new UnsupportedOperationException();
        }
        return countTrees(nodes, rules, new HashMap<>());
    }

    private int countTrees(List<Node> nodes, List<Node[]> rules, Map<Set<Node[]>, Integer> known) {
        if (rules.isEmpty()) {
            return 1;
        }
        Set<Node[]> key = new HashSet<>(rules);
        if (known.containsKey(key)) {
            return known.get(key);
        }
        int many = 0;
        for (Node[] rule : rules) {
            if (rule[0] != null && !isConclusion(rule[0], rules)) {
                continue;
            }
            List<Node[]> rest = new ArrayList<>(rules);
            rest.remove(rule);
            if (rule[0] != null && rule[0].formula.kind == '|') {
                many += countTrees(nodes, rest, known);
                continue;
            }
            List<Node[]> side = split(nodes, rules, rule);
            if (side != null) {
                rest.removeAll(side);
                many += countTrees(nodes, side, known) * countTrees(nodes, rest, known);
            }
        }
        known.put(key, many);
        return many;
    }

    // ------------------------------------------------------------ cuts and walks

    char step(int number) {
        if (number < 0 || number >= cuts.size()) {
            throw new IndexOutOfBoundsException();
        }
        int[] cut = cuts.get(number);
        Root one = roots.get(cut[0]);
        Root other = roots.get(cut[1]);
        if (one.formula.first == null) {
            int leaf = one.leaves.get(0);
            int otherLeaf = other.leaves.get(0);
            if (!links.containsKey(leaf) || !links.containsKey(otherLeaf) || links.get(leaf) == otherLeaf) {
                throw new UnsupportedOperationException();
            }
            int left = unlink(leaf);
            int right = unlink(otherLeaf);
            links.put(left, right);
            links.put(right, left);
            leaves.remove(leaf);
            leaves.remove(otherLeaf);
            roots.remove(cut[0]);
            roots.remove(cut[1]);
            cuts.remove(number);
            return 'a';
        }
        int first = come(half(one, false));
        int otherFirst = come(half(other, false));
        int second = come(half(one, true));
        int otherSecond = come(half(other, true));
        roots.remove(cut[0]);
        roots.remove(cut[1]);
        cuts.remove(number);
        cuts.add(new int[] {first, otherFirst});
        cuts.add(new int[] {second, otherSecond});
        return 'b';
    }

    private static Root half(Root root, boolean isSecond) {
        Root half = new Root();
        half.formula = isSecond ? root.formula.second : root.formula.first;
        int middle = root.formula.first.atoms().size();
        int end = root.leaves.size();
        half.leaves = new ArrayList<>(isSecond ? root.leaves.subList(middle, end) : root.leaves.subList(0, middle));
        return half;
    }

    int normal() {
        TreeMap<Integer, Root> rootsBefore = new TreeMap<>(roots);
        TreeMap<Integer, Formula> leavesBefore = new TreeMap<>(leaves);
        TreeMap<Integer, Integer> linksBefore = new TreeMap<>(links);
        List<int[]> cutsBefore = new ArrayList<>(cuts);
        int comeBefore = rootsCome;
        int steps = 0;
        try {
            while (!cuts.isEmpty()) {
                step(0);
                steps++;
            }
            return steps;
        } catch (UnsupportedOperationException e) {
            roots = rootsBefore;
            leaves = leavesBefore;
            links = linksBefore;
            cuts = cutsBefore;
            rootsCome = comeBefore;
            throw e;
        }
    }

    private int rootOf(int leaf) {
        for (Map.Entry<Integer, Root> entry : roots.entrySet()) {
            if (entry.getValue().leaves.contains(leaf)) {
                return entry.getKey();
            }
        }
        throw new IllegalStateException("no root of " + leaf);
    }

    /** The leaf at which a token ends, and how many links it passes. */
    int[] walk(int number) {
        leaf(number);
        if (acrossCut(rootOf(number)) >= 0) {
            throw new UnsupportedOperationException();
        }
        int here = number;
        int passed = 0;
        while (true) {
            if (!links.containsKey(here)) {
                throw new UnsupportedOperationException();
            }
            here = links.get(here);
            passed++;
            int root = rootOf(here);
            int across = acrossCut(root);
            if (across < 0) {
                return new int[] {here, passed};
            }
            here = roots.get(across).leaves.get(roots.get(root).leaves.indexOf(here));
        }
    }

    // ------------------------------------------------------------ meanings

    int points(char letter, int many) {
        needLetter(letter);
        if (many < 1 || many > 3) {
            throw new IllegalArgumentException();
        }
        int before = points[letter - 'a'];
        points[letter - 'a'] = many;
        near[letter - 'a'] = new boolean[3][3];
        return before;
    }

    boolean near(char letter, int one, int other, boolean is) {
        needLetter(letter);
        int many = points[letter - 'a'];
        if (one < 0 || one >= many || other < 0 || other >= many || one == other) {
            throw new IllegalArgumentException();
        }
        boolean before = near[letter - 'a'][one][other];
        near[letter - 'a'][one][other] = is;
        near[letter - 'a'][other][one] = is;
        return before;
    }

    private List<Map<Integer, Integer>> rows() {
        List<Map<Integer, Integer>> rows = new ArrayList<>();
        rows.add(new TreeMap<>());
        for (int leaf : leaves.keySet()) {
            if (acrossCut(rootOf(leaf)) >= 0) {
                continue;
            }
            int end = walk(leaf)[0];
            if (end < leaf) {
                continue;
            }
            List<Map<Integer, Integer>> longer = new ArrayList<>();
            for (Map<Integer, Integer> row : rows) {
                for (int point = 0; point < points[Character.toLowerCase(leaves.get(leaf).kind) - 'a']; point++) {
                    Map<Integer, Integer> more = new TreeMap<>(row);
                    more.put(leaf, point);
                    more.put(end, point);
                    longer.add(more);
                }
            }
            rows = longer;
        }
        return rows;
    }

    int meaning() {
        return rows().size();
    }

    boolean isClique() {
        List<Map<Integer, Integer>> rows = rows();
        if (rows.size() > 243) {
            throw new UnsupportedOperationException();
        }
        List<Root> conclusions = new ArrayList<>();
        for (Map.Entry<Integer, Root> entry : roots.entrySet()) {
            if (acrossCut(entry.getKey()) < 0) {
                conclusions.add(entry.getValue());
            }
        }
        for (int one = 0; one < rows.size(); one++) {
            for (int other = 0; other < one; other++) {
                boolean isNear = false;
                for (Root root : conclusions) {
                    List<Integer> left = new ArrayList<>(root.leaves);
                    isNear |= bond(root.formula, left, rows.get(one), rows.get(other)) > 0;
                }
                if (!isNear) {
                    return false;
                }
            }
        }
        return true;
    }

    /** 1 is near, -1 far, 0 alike. */
    private int bond(Formula formula, List<Integer> left, Map<Integer, Integer> one, Map<Integer, Integer> other) {
        if (formula.first == null) {
            int leaf = left.remove(0);
            int point = one.get(leaf);
            int otherPoint = other.get(leaf);
            if (point == otherPoint) {
                return 0;
            }
            boolean isNear = near[Character.toLowerCase(formula.kind) - 'a'][point][otherPoint];
            return isNear != Character.isUpperCase(formula.kind) ? 1 : -1;
        }
        int first = bond(formula.first, left, one, other);
        int second = bond(formula.second, left, one, other);
        if (formula.kind == '*') {
            return Math.min(first, second) < 0 ? -1 : Math.max(first, second);
        }
        return Math.max(first, second) > 0 ? 1 : Math.min(first, second);
    }

    // ------------------------------------------------------------ monoids

    int monoid(int newSize, int newPole) {
        if (newSize < 1 || newSize > 3 || newPole < 0 || newPole >= 1 << newSize) {
            throw new IllegalArgumentException();
        }
        int before = size;
        size = newSize;
        pole = newPole;
        sets = new int[5];
        return before;
    }

    int set(char letter, int numbers) {
        needLetter(letter);
        if (numbers < 0 || numbers >= 1 << size) {
            throw new IllegalArgumentException();
        }
        int before = sets[letter - 'a'];
        sets[letter - 'a'] = numbers;
        return before;
    }

    private Set<Integer> setOf(int bits) {
        Set<Integer> set = new HashSet<>();
        for (int number = 0; number < size; number++) {
            if ((bits & 1 << number) != 0) {
                set.add(number);
            }
        }
        return set;
    }

    private Set<Integer> dualOf(Set<Integer> set) {
        Set<Integer> dual = new HashSet<>();
        for (int number = 0; number < size; number++) {
            boolean isIn = true;
            for (int other : set) {
                isIn &= setOf(pole).contains((number + other) % size);
            }
            if (isIn) {
                dual.add(number);
            }
        }
        return dual;
    }

    private Set<Integer> sums(Set<Integer> one, Set<Integer> other) {
        Set<Integer> sums = new HashSet<>();
        for (int number : one) {
            for (int otherNumber : other) {
                sums.add((number + otherNumber) % size);
            }
        }
        return sums;
    }

    private Set<Integer> valueOf(Formula formula) {
        if (formula.first == null) {
            Set<Integer> plain = dualOf(dualOf(setOf(sets[Character.toLowerCase(formula.kind) - 'a'])));
            return Character.isUpperCase(formula.kind) ? dualOf(plain) : plain;
        }
        Set<Integer> first = valueOf(formula.first);
        Set<Integer> second = valueOf(formula.second);
        if (formula.kind == '*') {
            return dualOf(dualOf(sums(first, second)));
        }
        return dualOf(sums(dualOf(first), dualOf(second)));
    }

    int value(int number) {
        int bits = 0;
        for (int one : valueOf(formula(number))) {
            bits |= 1 << one;
        }
        return bits;
    }

    int counter(int number) {
        Formula formula = formula(number);
        Set<Integer> letters = new HashSet<>();
        for (Formula atom : formula.atoms()) {
            letters.add(Character.toLowerCase(atom.kind) - 'a');
        }
        if (letters.size() > 3) {
            throw new UnsupportedOperationException();
        }
        int sizeBefore = size;
        int poleBefore = pole;
        int[] setsBefore = sets;
        for (size = 1; size <= 3; size++) {
            for (pole = 0; pole < 1 << size; pole++) {
                sets = new int[5];
                if (failsSomewhere(formula, letters, 0)) {
                    return size;
                }
            }
        }
        size = sizeBefore;
        pole = poleBefore;
        sets = setsBefore;
        throw new NoSuchElementException();
    }

    private boolean failsSomewhere(Formula formula, Set<Integer> letters, int letter) {
        if (letter == 5) {
            return !valueOf(formula).contains(0);
        }
        int sorts = letters.contains(letter) ? 1 << size : 1;
        for (int numbers = 0; numbers < sorts; numbers++) {
            sets[letter] = numbers;
            if (failsSomewhere(formula, letters, letter + 1)) {
                return true;
            }
        }
        return false;
    }

    // ------------------------------------------------------------ the search and the sums

    private List<TreeMap<Integer, Integer>> allProofs() {
        if (!cuts.isEmpty() || leaves.size() > 10) {
            throw new UnsupportedOperationException();
        }
        List<TreeMap<Integer, Integer>> found = new ArrayList<>();
        TreeMap<Integer, Integer> before = links;
        links = new TreeMap<>();
        search(found);
        links = before;
        return found;
    }

    private void search(List<TreeMap<Integer, Integer>> found) {
        for (int one : leaves.keySet()) {
            if (links.containsKey(one)) {
                continue;
            }
            for (int other : leaves.keySet()) {
                if (other > one && !links.containsKey(other) && leaves.get(one).isDualOf(leaves.get(other))) {
                    links.put(one, other);
                    links.put(other, one);
                    search(found);
                    links.remove(one);
                    links.remove(other);
                }
            }
            return;
        }
        if (isComplete() && firstBad() < 0) {
            found.add(new TreeMap<>(links));
        }
    }

    int proofs() {
        return allProofs().size();
    }

    int proof(int index) {
        List<TreeMap<Integer, Integer>> all = allProofs();
        if (index < 0 || index >= all.size()) {
            throw new NoSuchElementException();
        }
        links = all.get(index);
        return links.size() / 2;
    }

    float linkShare() {
        if (leaves.isEmpty()) {
            throw new ArithmeticException();
        }
        return (float) links.size() / (float) leaves.size();
    }

    double meanAtoms() {
        if (formulas.isEmpty()) {
            throw new ArithmeticException();
        }
        int sum = 0;
        for (Formula formula : formulas) {
            sum += formula.atoms().size();
        }
        return (double) sum / (double) formulas.size();
    }

    long checksum() {
        long sum = 7;
        for (Root root : roots.values()) {
            sum = 31 * sum + find(root.formula);
        }
        for (int leaf : leaves.keySet()) {
            sum = 31 * sum + links.getOrDefault(leaf, -1);
        }
        sum = 31 * sum + cuts.size();
        return 31 * sum + formulas.size();
    }
}
