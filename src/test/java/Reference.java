import java.util.ArrayList;
import java.util.HashMap;
import java.util.List;
import java.util.Map;
import java.util.TreeSet;

/**
 * The document's words once more, written as plainly as possible and with no eye to cost: matching is
 * done on the tree of the formula, span by span, with whole sets of mappings. ReferenceTest holds
 * DocumentSpanner against it.
 *
 * A mapping is a long of three two-digit numbers, for X, Y and Z: 0 undefined, else 1 + 10 * start + end.
 */
final class Reference {
    private static final long[] UNITS = {10000, 100, 1};

    private String document = "";
    private Node formula = null;
    private List<TreeSet<Long>> slots = new ArrayList<>();
    private int[] weights = {1, 1, 1};
    private String buffer = "";
    private int errorPosition = -1;
    private int cursorSlot = -1;
    private int cursorPlace = 0;
    private Reference kept = null;

    Reference() {
        for (int slot = 0; slot < 6; slot++) {
            slots.add(null);
        }
    }

    // ---- trees of formulas, and what they match ----

    static final class Node {
        final char kind;
        final List<Node> parts = new ArrayList<>();

        /** Kinds: a letter or '.'; ',' sequence; '|' formula; '*', '+', '?'; 'X', 'Y', 'Z'. */
        Node(char kind, Node... parts) {
            this.kind = kind;
            this.parts.addAll(List.of(parts));
        }

        int mentions() {
            int set = kind >= 'X' && kind <= 'Z' ? 1 << kind - 'X' : 0;
            for (Node part : parts) {
                set |= part.mentions();
            }
            return set;
        }

        boolean sequential() {
            boolean good = true;
            if (kind == ',') {
                for (int i = 0; i < parts.size(); i++) {
                    for (int j = 0; j < i; j++) {
                        good &= (parts.get(i).mentions() & parts.get(j).mentions()) == 0;
                    }
                }
            }
            if (kind == '*' || kind == '+') {
                good = mentions() == 0;
            }
            if (kind >= 'X' && kind <= 'Z') {
                good = (parts.get(0).mentions() & 1 << kind - 'X') == 0;
            }
            for (Node part : parts) {
                good &= part.sequential();
            }
            return good;
        }

        boolean functional() {
            boolean good = sequential();
            if (kind == '?') {
                good &= mentions() == 0;
            }
            if (kind == '|') {
                for (Node part : parts) {
                    good &= part.mentions() == parts.get(0).mentions();
                }
            }
            for (Node part : parts) {
                good &= part.functional();
            }
            return good;
        }
    }

    private static final class Matcher {
        final String text;
        final Map<Node, TreeSet<Long>[][]> known = new HashMap<>();

        Matcher(String text) {
            this.text = text;
        }

        @SuppressWarnings("unchecked")
        TreeSet<Long> match(Node node, int i, int j) {
            TreeSet<Long>[][] table = known.computeIfAbsent(node, n -> new TreeSet[text.length() + 1][text.length() + 1]);
            if (table[i][j] == null) {
                table[i][j] = compute(node, i, j);
            }
            return table[i][j];
        }

        private TreeSet<Long> compute(Node node, int i, int j) {
            TreeSet<Long> all = new TreeSet<>();
            switch (node.kind) {
                case '|':
                    for (Node part : node.parts) {
                        all.addAll(match(part, i, j));
                    }
                    return all;
                case ',':
                    return sequence(node.parts, i, j);
                case '?':
                    all.addAll(match(node.parts.get(0), i, j));
                    if (i == j) {
                        all.add(0L);
                    }
                    return all;
                case '*':
                    return copies(node, i, j);
                case '+':
                    Node star = new Node('*', node.parts.get(0));
                    return sequence(List.of(node.parts.get(0), star), i, j);
                case 'X':
                case 'Y':
                case 'Z':
                    long unit = UNITS[node.kind - 'X'];
                    for (long mapping : match(node.parts.get(0), i, j)) {
                        if (mapping / unit % 100 == 0) {
                            all.add(mapping + unit * (1 + 10 * i + j));
                        }
                    }
                    return all;
                default:
                    if (j == i + 1 && (node.kind == '.' || node.kind == text.charAt(i))) {
                        all.add(0L);
                    }
                    return all;
            }
        }

        private TreeSet<Long> sequence(List<Node> items, int i, int j) {
            // For each end k: what the items so far match from i to k.
            Map<Integer, TreeSet<Long>> ends = Map.of(i, new TreeSet<>(List.of(0L)));
            for (Node item : items) {
                Map<Integer, TreeSet<Long>> next = new HashMap<>();
                for (Map.Entry<Integer, TreeSet<Long>> end : ends.entrySet()) {
                    for (int k = end.getKey(); k <= j; k++) {
                        addPairs(end.getValue(), match(item, end.getKey(), k), next.computeIfAbsent(k, n -> new TreeSet<>()));
                    }
                }
                ends = next;
            }
            return ends.getOrDefault(j, new TreeSet<>());
        }

        private TreeSet<Long> copies(Node star, int i, int j) {
            TreeSet<Long> all = new TreeSet<>();
            if (i == j) {
                all.add(0L);
            }
            for (int k = i + 1; k <= j; k++) {
                addPairs(match(star.parts.get(0), i, k), match(star, k, j), all);
            }
            // Copies that match the empty span at i come first; each useful one defines a variable more.
            for (int round = 0; round < 4; round++) {
                addPairs(match(star.parts.get(0), i, i), new TreeSet<>(all), all);
            }
            return all;
        }

        private static void addPairs(TreeSet<Long> left, TreeSet<Long> right, TreeSet<Long> all) {
            for (long a : left) {
                for (long b : right) {
                    if ((defined(a) & defined(b)) == 0) {
                        all.add(a + b);
                    }
                }
            }
        }
    }

    private static int defined(long mapping) {
        int set = 0;
        for (int v = 0; v < 3; v++) {
            set |= field(mapping, v) != 0 ? 1 << v : 0;
        }
        return set;
    }

    private static int field(long mapping, int v) {
        return (int) (mapping / UNITS[v] % 100);
    }

    private static int from(long mapping, int v) {
        return field(mapping, v) == 0 ? -1 : (field(mapping, v) - 1) / 10;
    }

    private static int to(long mapping, int v) {
        return field(mapping, v) == 0 ? -1 : (field(mapping, v) - 1) % 10;
    }

    // ---- reading formulas ----

    private static final class Reader {
        final String text;
        int at = 0;
        int open = 0;

        Reader(String text) {
            this.text = text;
        }

        char peek() {
            return at < text.length() ? text.charAt(at) : 0;
        }

        Node whole() {
            Node node = formula();
            if (at < text.length()) {
                throw new IllegalArgumentException();
            }
            return node;
        }

        private Node formula() {
            Node node = new Node('|', sequence());
            while (peek() == '|') {
                at++;
                node.parts.add(sequence());
            }
            return node;
        }

        private Node sequence() {
            Node node = new Node(',');
            while (Character.isLowerCase(peek()) || ".(XYZ".indexOf(peek()) >= 0) {
                Node atom = atom();
                if (peek() == '*' || peek() == '+' || peek() == '?') {
                    atom = new Node(peek(), atom);
                    at++;
                }
                node.parts.add(atom);
            }
            return node;
        }

        private Node atom() {
            char character = peek();
            if (character == '(') {
                return inside('(', ')');
            }
            at++;
            if (character < 'X' || character > 'Z') {
                return new Node(character);
            }
            return new Node(character, inside('{', '}'));
        }

        private Node inside(char opener, char closer) {
            if (peek() != opener || open == 6) {
                throw new IllegalArgumentException();
            }
            at++;
            open++;
            Node node = formula();
            if (peek() != closer) {
                throw new IllegalArgumentException();
            }
            at++;
            open--;
            return node;
        }
    }

    // ---- the face ----

    int appendLetter(int letter) {
        refuseArgument(letter < 97 || letter > 122);
        refuseState(document.length() == 8);
        document += (char) letter;
        emptySlots();
        return document.length();
    }

    int clearDocument() {
        int length = document.length();
        document = "";
        emptySlots();
        return length;
    }

    int letter(int position) {
        refuseIndex(position < 0 || position >= document.length());
        return document.charAt(position);
    }

    int appendCharacter(int character) {
        refuseArgument(character < 33 || character > 126);
        refuseState(buffer.length() == 40);
        buffer += (char) character;
        return buffer.length();
    }

    int parse() {
        Reader reader = new Reader(buffer);
        buffer = "";
        try {
            formula = reader.whole();
        } catch (IllegalArgumentException e) {
            errorPosition = reader.at;
            throw e;
        }
        errorPosition = -1;
        return reader.text.length();
    }

    int errorPosition() {
        return errorPosition;
    }

    int formulaVariables() {
        refuseState(formula == null);
        return formula.mentions();
    }

    int formulaKind() {
        refuseState(formula == null);
        return formula.functional() ? 2 : formula.sequential() ? 1 : 0;
    }

    int extract(int to) {
        slotCheck(to);
        refuseState(formula == null);
        return store(to, resultOn(0, document.length()));
    }

    int size(int slot) {
        return table(slot).size();
    }

    int start(int slot, int row, int variable) {
        long mapping = row(slot, row);
        variableCheck(variable);
        return from(mapping, variable);
    }

    int end(int slot, int row, int variable) {
        long mapping = row(slot, row);
        variableCheck(variable);
        return to(mapping, variable);
    }

    int domain(int slot) {
        int set = 0;
        for (long mapping : table(slot)) {
            set |= defined(mapping);
        }
        return set;
    }

    int clear(int slot) {
        slotCheck(slot);
        int rows = slots.get(slot) == null ? -1 : slots.get(slot).size();
        put(slot, null);
        return rows;
    }

    int union(int a, int b, int to) {
        slotCheck(a, b, to);
        TreeSet<Long> all = new TreeSet<>(table(a));
        all.addAll(table(b));
        return store(to, all);
    }

    int join(int a, int b, int to) {
        slotCheck(a, b, to);
        TreeSet<Long> left = table(a);
        TreeSet<Long> right = table(b);
        TreeSet<Long> all = new TreeSet<>();
        for (long one : left) {
            for (long other : right) {
                if (compatible(one, other)) {
                    long both = 0;
                    for (int v = 0; v < 3; v++) {
                        both += UNITS[v] * Math.max(field(one, v), field(other, v));
                    }
                    all.add(both);
                }
            }
        }
        return store(to, all);
    }

    int minus(int a, int b, int to) {
        slotCheck(a, b, to);
        TreeSet<Long> all = new TreeSet<>(table(a));
        all.removeAll(table(b));
        return store(to, all);
    }

    int antijoin(int a, int b, int to) {
        slotCheck(a, b, to);
        TreeSet<Long> all = new TreeSet<>(table(a));
        TreeSet<Long> others = table(b);
        all.removeIf(one -> others.stream().anyMatch(other -> compatible(one, other)));
        return store(to, all);
    }

    int project(int a, int variables, int to) {
        slotCheck(a, to);
        refuseArgument(variables < 0 || variables > 7);
        TreeSet<Long> all = new TreeSet<>();
        for (long mapping : table(a)) {
            long rest = 0;
            for (int v = 0; v < 3; v++) {
                rest += (variables >> v & 1) * UNITS[v] * field(mapping, v);
            }
            all.add(rest);
        }
        return store(to, all);
    }

    int exchange(int a, int u, int v, int to) {
        slotCheck(a, to);
        variableCheck(u, v);
        TreeSet<Long> all = new TreeSet<>();
        for (long mapping : table(a)) {
            long rest = mapping - UNITS[u] * field(mapping, u);
            rest = u == v ? rest : rest - UNITS[v] * field(mapping, v);
            rest += UNITS[u] * field(mapping, v);
            all.add(u == v ? rest : rest + UNITS[v] * field(mapping, u));
        }
        return store(to, all);
    }

    int selectEqual(int a, int u, int v, int to) {
        slotCheck(a, to);
        variableCheck(u, v);
        TreeSet<Long> all = new TreeSet<>(table(a));
        all.removeIf(m -> field(m, u) == 0 || field(m, v) == 0
                || !document.substring(from(m, u), to(m, u)).equals(document.substring(from(m, v), to(m, v))));
        return store(to, all);
    }

    int selectLength(int a, int u, int least, int most, int to) {
        slotCheck(a, to);
        variableCheck(u);
        TreeSet<Long> all = new TreeSet<>(table(a));
        all.removeIf(m -> field(m, u) == 0 || to(m, u) - from(m, u) < least || to(m, u) - from(m, u) > most);
        return store(to, all);
    }

    int selectRelation(int a, int u, int v, int relation, int to) {
        slotCheck(a, to);
        variableCheck(u, v);
        refuseArgument(relation < 0 || relation > 3);
        TreeSet<Long> all = new TreeSet<>(table(a));
        all.removeIf(m -> field(m, u) == 0 || field(m, v) == 0
                || relation == 0 && !(to(m, u) <= from(m, v))
                || relation == 1 && !(from(m, u) >= from(m, v) && to(m, u) <= to(m, v))
                || relation == 2 && from(m, u) != from(m, v)
                || relation == 3 && to(m, u) != to(m, v));
        return store(to, all);
    }

    boolean contained(int a, int b) {
        slotCheck(a, b);
        TreeSet<Long> first = table(a);
        return table(b).containsAll(first);
    }

    boolean disjoint(int slot) {
        for (int one : chunks(table(slot))) {
            for (int other : chunks(table(slot))) {
                int oneStart = one / 10;
                int oneEnd = one % 10;
                if (one != other && !(oneEnd <= other / 10 || other % 10 <= oneStart)) {
                    return false;
                }
            }
        }
        return true;
    }

    int extractSplit(int splitter, int to) {
        slotCheck(splitter, to);
        return store(to, splitResult(splitter));
    }

    boolean splitCorrect(int splitter) {
        slotCheck(splitter);
        return splitResult(splitter).equals(resultOn(0, document.length()));
    }

    int openCursor(int slot) {
        int rows = table(slot).size();
        cursorSlot = slot;
        cursorPlace = 0;
        return rows;
    }

    int cursorRow() {
        refuseState(cursorSlot < 0);
        return cursorPlace < table(cursorSlot).size() ? cursorPlace : -1;
    }

    int advance(int rows) {
        refuseArgument(rows < 0);
        refuseState(cursorSlot < 0);
        cursorPlace = (int) Math.min((long) cursorPlace + rows, table(cursorSlot).size());
        return cursorRow();
    }

    int skipTo(int position) {
        refuseState(cursorSlot < 0);
        List<Long> rows = new ArrayList<>(table(cursorSlot));
        while (cursorPlace < rows.size()
                && (field(rows.get(cursorPlace), 0) == 0 || from(rows.get(cursorPlace), 0) < position)) {
            cursorPlace++;
        }
        return cursorRow();
    }

    int setWeight(int variable, int weight) {
        variableCheck(variable);
        int previous = weights[variable];
        weights[variable] = weight;
        return previous;
    }

    int score(int slot, int row) {
        return score(row(slot, row));
    }

    int classes(int slot) {
        return new TreeSet<>(scores(slot)).size();
    }

    int rank(int slot, int row) {
        row(slot, row);
        List<Integer> scores = scores(slot);
        return new TreeSet<>(scores).tailSet(scores.get(row), false).size();
    }

    int best(int slot, int index) {
        row(slot, index);
        List<Integer> scores = scores(slot);
        List<Integer> order = new ArrayList<>();
        for (int row = 0; row < scores.size(); row++) {
            order.add(row);
        }
        order.sort((one, other) -> Integer.compare(scores.get(other), scores.get(one)));
        return order.get(index);
    }

    int total(int slot) {
        int sum = 0;
        for (int score : scores(slot)) {
            sum = Math.addExact(sum, score);
        }
        return sum;
    }

    int save() {
        kept = new Reference();
        copy(this, kept);
        return tables();
    }

    int restore() {
        refuseState(kept == null);
        copy(kept, this);
        cursorSlot = -1;
        return tables();
    }

    // ---- helpers of the face ----

    private static void refuseArgument(boolean wrong) {
        if (wrong) {
            throw new IllegalArgumentException();
        }
    }

    private static void refuseState(boolean wrong) {
        if (wrong) {
            throw new IllegalStateException();
        }
    }

    private static void refuseIndex(boolean wrong) {
        if (wrong) {
            throw new IndexOutOfBoundsException();
        }
    }

    private static void slotCheck(int... slots) {
        for (int slot : slots) {
            refuseIndex(slot < 0 || slot > 5);
        }
    }

    private static void variableCheck(int... variables) {
        for (int variable : variables) {
            refuseIndex(variable < 0 || variable > 2);
        }
    }

    private TreeSet<Long> table(int slot) {
        slotCheck(slot);
        refuseState(slots.get(slot) == null);
        return slots.get(slot);
    }

    private long row(int slot, int row) {
        List<Long> rows = new ArrayList<>(table(slot));
        refuseIndex(row < 0 || row >= rows.size());
        return rows.get(row);
    }

    private int store(int to, TreeSet<Long> table) {
        refuseState(table.size() > 200);
        put(to, table);
        return table.size();
    }

    private void put(int slot, TreeSet<Long> table) {
        slots.set(slot, table);
        if (cursorSlot == slot) {
            cursorSlot = -1;
        }
    }

    private void emptySlots() {
        for (int slot = 0; slot < 6; slot++) {
            put(slot, null);
        }
    }

    private static boolean compatible(long one, long other) {
        for (int v = 0; v < 3; v++) {
            if (field(one, v) != 0 && field(other, v) != 0 && field(one, v) != field(other, v)) {
                return false;
            }
        }
        return true;
    }

    private static TreeSet<Integer> chunks(TreeSet<Long> table) {
        TreeSet<Integer> chunks = new TreeSet<>();
        for (long mapping : table) {
            if (field(mapping, 0) != 0) {
                chunks.add(10 * from(mapping, 0) + to(mapping, 0));
            }
        }
        return chunks;
    }

    private TreeSet<Long> resultOn(int from, int to) {
        String text = document.substring(from, to);
        TreeSet<Long> shifted = new TreeSet<>();
        for (long mapping : new Matcher(text).match(formula, 0, text.length())) {
            long moved = mapping;
            for (int v = 0; v < 3; v++) {
                moved += field(mapping, v) == 0 ? 0 : UNITS[v] * 11 * from;
            }
            shifted.add(moved);
        }
        return shifted;
    }

    private TreeSet<Long> splitResult(int splitter) {
        TreeSet<Integer> chunks = chunks(table(splitter));
        refuseState(formula == null);
        TreeSet<Long> all = new TreeSet<>();
        for (int chunk : chunks) {
            all.addAll(resultOn(chunk / 10, chunk % 10));
        }
        return all;
    }

    private int score(long mapping) {
        int sum = 0;
        for (int v = 0; v < 3; v++) {
            if (field(mapping, v) != 0) {
                sum = Math.addExact(sum, Math.multiplyExact(weights[v], to(mapping, v) - from(mapping, v)));
            }
        }
        return sum;
    }

    private List<Integer> scores(int slot) {
        List<Integer> scores = new ArrayList<>();
        for (long mapping : table(slot)) {
            scores.add(score(mapping));
        }
        return scores;
    }

    private int tables() {
        return (int) slots.stream().filter(table -> table != null).count();
    }

    private static void copy(Reference one, Reference other) {
        other.document = one.document;
        other.formula = one.formula;
        other.slots = new ArrayList<>(one.slots);
        other.weights = one.weights.clone();
    }
}
