import java.util.Arrays;

/**
 * An evaluator for document spanners: regular expressions with capture variables extract tables of
 * spans from a short document.
 */
public final class DocumentSpanner {
    private static final int MOST_LETTERS = 8;
    private static final int POSITIONS = MOST_LETTERS + 1;
    private static final int MOST_CHARACTERS = 40;
    private static final int MOST_OPEN = 6;
    private static final int VARIABLES = 3;
    private static final int VARIABLE_SETS = 8;
    private static final int SLOTS = 6;
    private static final int MOST_ROWS = 200;
    private static final int RELATIONS = 4;
    private static final int NONE = -1;

    private final State state = new State();
    private final State kept = new State();
    private boolean isKept = false;

    private final int[] buffer = new int[MOST_CHARACTERS];
    private int bufferLength = 0;
    private int faultPosition = NONE;

    private int cursorSlot = NONE;
    private int cursorPlace = 0;

    private final Search search = new Search();
    private final SortedInts result = new SortedInts();
    private final MappingSet wholeResult = new MappingSet();
    private final MappingSet splitResult = new MappingSet();
    private final int[] scores = new int[MOST_ROWS];
    private final SortedInts scoreLevels = new SortedInts();

    public DocumentSpanner() {
    }

    // ---- document ----

    public int appendLetter(int letter) throws IllegalArgumentException, IllegalStateException {
        if (letter < 'a' || letter > 'z') {
            throw new IllegalArgumentException("a letter is 97 to 122");
        }
        if (state.length >= MOST_LETTERS) {
            throw new IllegalStateException("the document has 8 letters");
        }
        state.letters[state.length] = letter;
        state.length++;
        emptyAllSlots();
        return state.length;
    }

    public int clearDocument() {
        int previous = state.length;
        state.length = 0;
        emptyAllSlots();
        return previous;
    }

    public int letter(int position) throws IndexOutOfBoundsException {
        if (position < 0 || position >= state.length) {
            throw new IndexOutOfBoundsException("no letter at this position");
        }
        return state.letters[position];
    }

    private void emptyAllSlots() {
        for (int slot = 0; slot < SLOTS; slot++) {
            state.filled[slot] = false;
        }
        cursorSlot = NONE;
    }

    // ---- formula ----

    public int appendCharacter(int character) throws IllegalArgumentException, IllegalStateException {
        if (character < 33 || character > 126) {
            throw new IllegalArgumentException("a character is 33 to 126");
        }
        if (bufferLength >= MOST_CHARACTERS) {
            throw new IllegalStateException("the buffer has 40 characters");
        }
        buffer[bufferLength] = character;
        bufferLength++;
        return bufferLength;
    }

    public int parse() throws IllegalArgumentException {
        int count = bufferLength;
        bufferLength = 0;
        faultPosition = Syntax.firstFault(buffer, count);
        if (faultPosition != NONE) {
            throw new IllegalArgumentException("the buffer does not contain a formula");
        }
        state.formula = new FormulaReader(buffer, count).read();
        return count;
    }

    public int errorPosition() {
        return faultPosition;
    }

    public int formulaVariables() throws IllegalStateException {
        return currentFormula().mentioned;
    }

    public int formulaKind() throws IllegalStateException {
        return currentFormula().kind;
    }

    private Formula currentFormula() {
        Formula formula = state.formula;
        if (formula == null) {
            throw new IllegalStateException("there is no current formula");
        }
        return formula;
    }

    public int extract(int to) throws IndexOutOfBoundsException, IllegalStateException {
        checkSlot(to);
        Formula formula = currentFormula();
        result.empty();
        search.run(formula, state.letters, 0, state.length, result);
        return storeResult(to);
    }

    // ---- tables ----

    public int size(int slot) throws IndexOutOfBoundsException, IllegalStateException {
        return tableIn(slot).count;
    }

    public int start(int slot, int row, int variable) throws IndexOutOfBoundsException, IllegalStateException {
        return Mapping.startOf(spanAt(slot, row, variable));
    }

    public int end(int slot, int row, int variable) throws IndexOutOfBoundsException, IllegalStateException {
        return Mapping.endOf(spanAt(slot, row, variable));
    }

    public int domain(int slot) throws IndexOutOfBoundsException, IllegalStateException {
        SortedInts table = tableIn(slot);
        int variables = 0;
        for (int row = 0; row < table.count; row++) {
            variables |= Mapping.definedBy(table.values[row]);
        }
        return variables;
    }

    public int clear(int slot) throws IndexOutOfBoundsException {
        checkSlot(slot);
        int rows = state.filled[slot] ? state.tables[slot].count : NONE;
        state.filled[slot] = false;
        leaveSlot(slot);
        return rows;
    }

    private int spanAt(int slot, int row, int variable) {
        SortedInts table = tableIn(slot);
        checkRow(table, row);
        checkVariable(variable);
        return Mapping.spanOf(table.values[row], variable);
    }

    private static void checkSlot(int slot) {
        if (slot < 0 || slot >= SLOTS) {
            throw new IndexOutOfBoundsException("a slot is 0 to 5");
        }
    }

    private static void checkVariable(int variable) {
        if (variable < 0 || variable >= VARIABLES) {
            throw new IndexOutOfBoundsException("a variable is 0 to 2");
        }
    }

    private static void checkRow(SortedInts table, int row) {
        if (row < 0 || row >= table.count) {
            throw new IndexOutOfBoundsException("no such row");
        }
    }

    private SortedInts tableIn(int slot) {
        checkSlot(slot);
        if (!state.filled[slot]) {
            throw new IllegalStateException("there is no table in the slot");
        }
        return state.tables[slot];
    }

    private int storeResult(int to) {
        if (result.overfull) {
            throw new IllegalStateException("the result has more than 200 mappings");
        }
        state.tables[to].copyFrom(result);
        state.filled[to] = true;
        leaveSlot(to);
        return result.count;
    }

    private void leaveSlot(int slot) {
        if (cursorSlot == slot) {
            cursorSlot = NONE;
        }
    }

    // ---- algebra ----

    public int union(int a, int b, int to) throws IndexOutOfBoundsException, IllegalStateException {
        checkSlots(a, b, to);
        SortedInts first = tableIn(a);
        SortedInts second = tableIn(b);
        result.copyFrom(first);
        for (int row = 0; row < second.count; row++) {
            result.collect(second.values[row]);
        }
        return storeResult(to);
    }

    public int join(int a, int b, int to) throws IndexOutOfBoundsException, IllegalStateException {
        checkSlots(a, b, to);
        SortedInts first = tableIn(a);
        SortedInts second = tableIn(b);
        result.empty();
        for (int row = 0; row < first.count && !result.overfull; row++) {
            joinMapping(first.values[row], second);
        }
        return storeResult(to);
    }

    private void joinMapping(int mapping, SortedInts others) {
        for (int row = 0; row < others.count && !result.overfull; row++) {
            int other = others.values[row];
            if (Mapping.compatible(mapping, other)) {
                // Compatible spans are equal or one is undefined (0), so the bits just add up.
                result.collect(mapping | other);
            }
        }
    }

    public int minus(int a, int b, int to) throws IndexOutOfBoundsException, IllegalStateException {
        checkSlots(a, b, to);
        SortedInts first = tableIn(a);
        SortedInts second = tableIn(b);
        result.empty();
        for (int row = 0; row < first.count; row++) {
            if (!second.has(first.values[row])) {
                result.collect(first.values[row]);
            }
        }
        return storeResult(to);
    }

    public int antijoin(int a, int b, int to) throws IndexOutOfBoundsException, IllegalStateException {
        checkSlots(a, b, to);
        SortedInts first = tableIn(a);
        SortedInts second = tableIn(b);
        result.empty();
        for (int row = 0; row < first.count; row++) {
            if (!compatibleWithAny(first.values[row], second)) {
                result.collect(first.values[row]);
            }
        }
        return storeResult(to);
    }

    private static boolean compatibleWithAny(int mapping, SortedInts others) {
        for (int row = 0; row < others.count; row++) {
            if (Mapping.compatible(mapping, others.values[row])) {
                return true;
            }
        }
        return false;
    }

    private static void checkSlots(int a, int b, int to) {
        checkSlot(a);
        checkSlot(b);
        checkSlot(to);
    }

    public int project(int a, int variables, int to)
            throws IndexOutOfBoundsException, IllegalArgumentException, IllegalStateException {
        checkSlot(a);
        checkSlot(to);
        if (variables < 0 || variables >= VARIABLE_SETS) {
            throw new IllegalArgumentException("a set of variables is 0 to 7");
        }
        SortedInts table = tableIn(a);
        int bits = Mapping.bitsOf(variables);
        result.empty();
        for (int row = 0; row < table.count; row++) {
            result.collect(table.values[row] & bits);
        }
        return storeResult(to);
    }

    public int exchange(int a, int u, int v, int to) throws IndexOutOfBoundsException, IllegalStateException {
        checkSelection(a, u, v, to);
        SortedInts table = tableIn(a);
        result.empty();
        for (int row = 0; row < table.count; row++) {
            result.collect(Mapping.exchanged(table.values[row], u, v));
        }
        return storeResult(to);
    }

    public int selectEqual(int a, int u, int v, int to) throws IndexOutOfBoundsException, IllegalStateException {
        checkSelection(a, u, v, to);
        SortedInts table = tableIn(a);
        result.empty();
        for (int row = 0; row < table.count; row++) {
            int mapping = table.values[row];
            if (Mapping.definesBoth(mapping, u, v)
                    && coverEqually(Mapping.spanOf(mapping, u), Mapping.spanOf(mapping, v))) {
                result.collect(mapping);
            }
        }
        return storeResult(to);
    }

    private boolean coverEqually(int span, int other) {
        int length = Mapping.lengthOf(span);
        if (length != Mapping.lengthOf(other)) {
            return false;
        }
        int from = Mapping.startOf(span);
        int otherFrom = Mapping.startOf(other);
        if (from < 0 || otherFrom < 0 || from + length > state.length || otherFrom + length > state.length) {
            return false;
        }
        for (int step = 0; step < length; step++) {
            if (state.letters[from + step] != state.letters[otherFrom + step]) {
                return false;
            }
        }
        return true;
    }

    public int selectLength(int a, int u, int least, int most, int to)
            throws IndexOutOfBoundsException, IllegalStateException {
        checkSelection(a, u, u, to);
        SortedInts table = tableIn(a);
        result.empty();
        for (int row = 0; row < table.count; row++) {
            int span = Mapping.spanOf(table.values[row], u);
            int length = Mapping.lengthOf(span);
            if (span != Mapping.UNDEFINED && length >= least && length <= most) {
                result.collect(table.values[row]);
            }
        }
        return storeResult(to);
    }

    public int selectRelation(int a, int u, int v, int relation, int to)
            throws IndexOutOfBoundsException, IllegalArgumentException, IllegalStateException {
        checkSelection(a, u, v, to);
        if (relation < 0 || relation >= RELATIONS) {
            throw new IllegalArgumentException("a relation is 0 to 3");
        }
        SortedInts table = tableIn(a);
        result.empty();
        for (int row = 0; row < table.count; row++) {
            int mapping = table.values[row];
            if (Mapping.definesBoth(mapping, u, v)
                    && Mapping.related(Mapping.spanOf(mapping, u), Mapping.spanOf(mapping, v), relation)) {
                result.collect(mapping);
            }
        }
        return storeResult(to);
    }

    private static void checkSelection(int a, int u, int v, int to) {
        checkSlot(a);
        checkSlot(to);
        checkVariable(u);
        checkVariable(v);
    }

    public boolean contained(int a, int b) throws IndexOutOfBoundsException, IllegalStateException {
        checkSlot(a);
        checkSlot(b);
        SortedInts first = tableIn(a);
        SortedInts second = tableIn(b);
        for (int row = 0; row < first.count; row++) {
            if (!second.has(first.values[row])) {
                return false;
            }
        }
        return true;
    }

    // ---- splitting ----

    public boolean disjoint(int slot) throws IndexOutOfBoundsException, IllegalStateException {
        SortedInts table = tableIn(slot);
        int last = Mapping.UNDEFINED;
        // The rows ascend by X, so each chunk need only be held against the one before it.
        for (int row = 0; row < table.count; row++) {
            int chunk = Mapping.spanOf(table.values[row], 0);
            if (chunk == last) {
                continue;
            }
            if (last != Mapping.UNDEFINED && Mapping.endOf(last) > Mapping.startOf(chunk)) {
                return false;
            }
            last = chunk;
        }
        return true;
    }

    public int extractSplit(int splitter, int to) throws IndexOutOfBoundsException, IllegalStateException {
        checkSlot(splitter);
        checkSlot(to);
        SortedInts chunks = tableIn(splitter);
        Formula formula = currentFormula();
        result.empty();
        searchChunks(formula, chunks, result);
        return storeResult(to);
    }

    public boolean splitCorrect(int splitter) throws IndexOutOfBoundsException, IllegalStateException {
        SortedInts chunks = tableIn(splitter);
        Formula formula = currentFormula();
        wholeResult.empty();
        splitResult.empty();
        search.run(formula, state.letters, 0, state.length, wholeResult);
        searchChunks(formula, chunks, splitResult);
        return wholeResult.isSameAs(splitResult);
    }

    private void searchChunks(Formula formula, SortedInts table, Collector found) {
        int last = Mapping.UNDEFINED;
        for (int row = 0; row < table.count && !found.isFull(); row++) {
            int chunk = Mapping.spanOf(table.values[row], 0);
            if (chunk != last) {
                search.run(formula, state.letters, Mapping.startOf(chunk), Mapping.endOf(chunk), found);
                last = chunk;
            }
        }
    }

    // ---- cursor ----

    public int openCursor(int slot) throws IndexOutOfBoundsException, IllegalStateException {
        SortedInts table = tableIn(slot);
        cursorSlot = slot;
        cursorPlace = 0;
        return table.count;
    }

    public int cursorRow() throws IllegalStateException {
        return rowAtCursor(cursorTable());
    }

    public int advance(int rows) throws IllegalArgumentException, IllegalStateException {
        if (rows < 0) {
            throw new IllegalArgumentException("the number of rows is negative");
        }
        SortedInts table = cursorTable();
        cursorPlace = rows >= table.count - cursorPlace ? table.count : cursorPlace + rows;
        return rowAtCursor(table);
    }

    public int skipTo(int position) throws IllegalStateException {
        SortedInts table = cursorTable();
        int place = cursorPlace;
        while (place < table.count && !startsFrom(table.values[place], position)) {
            place++;
        }
        cursorPlace = place;
        return rowAtCursor(table);
    }

    private static boolean startsFrom(int mapping, int position) {
        int span = Mapping.spanOf(mapping, 0);
        return span != Mapping.UNDEFINED && Mapping.startOf(span) >= position;
    }

    private SortedInts cursorTable() {
        if (cursorSlot == NONE) {
            throw new IllegalStateException("the cursor is closed");
        }
        return tableIn(cursorSlot);
    }

    private int rowAtCursor(SortedInts table) {
        return cursorPlace < table.count ? cursorPlace : NONE;
    }

    // ---- scores ----

    public int setWeight(int variable, int weight) throws IndexOutOfBoundsException {
        checkVariable(variable);
        int previous = state.weights[variable];
        state.weights[variable] = weight;
        return previous;
    }

    public int score(int slot, int row) throws IndexOutOfBoundsException, IllegalStateException, ArithmeticException {
        SortedInts table = tableIn(slot);
        checkRow(table, row);
        return scoreOf(table.values[row]);
    }

    public int classes(int slot) throws IndexOutOfBoundsException, IllegalStateException, ArithmeticException {
        scoreRows(tableIn(slot));
        return scoreLevels.count;
    }

    public int rank(int slot, int row) throws IndexOutOfBoundsException, IllegalStateException, ArithmeticException {
        SortedInts table = tableIn(slot);
        checkRow(table, row);
        scoreRows(table);
        return scoreLevels.count - 1 - scoreLevels.placeOf(scores[row]);
    }

    public int best(int slot, int index) throws IndexOutOfBoundsException, IllegalStateException, ArithmeticException {
        SortedInts table = tableIn(slot);
        checkRow(table, index);
        scoreRows(table);
        int before = index;
        for (int level = scoreLevels.count - 1; level >= 0; level--) {
            for (int row = 0; row < table.count; row++) {
                if (scores[row] == scoreLevels.values[level]) {
                    if (before == 0) {
                        return row;
                    }
                    before--;
                }
            }
        }
        return NONE;
    }

    public int total(int slot) throws IndexOutOfBoundsException, IllegalStateException, ArithmeticException {
        SortedInts table = tableIn(slot);
        int sum = 0;
        for (int row = 0; row < table.count; row++) {
            sum = intOf((long) sum + scoreOf(table.values[row]));
        }
        return sum;
    }

    private void scoreRows(SortedInts table) {
        scoreLevels.empty();
        for (int row = 0; row < table.count; row++) {
            scores[row] = scoreOf(table.values[row]);
            scoreLevels.collect(scores[row]);
        }
    }

    private int scoreOf(int mapping) {
        int sum = 0;
        for (int variable = 0; variable < VARIABLES; variable++) {
            int span = Mapping.spanOf(mapping, variable);
            if (span != Mapping.UNDEFINED) {
                int product = intOf((long) state.weights[variable] * Mapping.lengthOf(span));
                sum = intOf((long) sum + product);
            }
        }
        return sum;
    }

    private static int intOf(long value) {
        int narrowed = (int) value;
        if (narrowed != value) {
            throw new ArithmeticException("a score overflows");
        }
        return narrowed;
    }

    // ---- saved state ----

    public int save() {
        kept.copyFrom(state);
        isKept = true;
        return state.countTables();
    }

    public int restore() throws IllegalStateException {
        if (!isKept) {
            throw new IllegalStateException("nothing was saved");
        }
        state.copyFrom(kept);
        cursorSlot = NONE;
        return state.countTables();
    }

    /** What save keeps and restore brings back. */
    private static final class State {
        final int[] letters = new int[MOST_LETTERS];
        final SortedInts[] tables = new SortedInts[SLOTS];
        final boolean[] filled = new boolean[SLOTS];
        final int[] weights = new int[VARIABLES];
        int length = 0;
        /** Null without a current formula; a formula never changes, so copies of a state share it. */
        Formula formula = null;

        State() {
            for (int slot = 0; slot < SLOTS; slot++) {
                tables[slot] = new SortedInts();
            }
            for (int variable = 0; variable < VARIABLES; variable++) {
                weights[variable] = 1;
            }
        }

        void copyFrom(State other) {
            System.arraycopy(other.letters, 0, letters, 0, MOST_LETTERS);
            System.arraycopy(other.weights, 0, weights, 0, VARIABLES);
            length = other.length;
            formula = other.formula;
            for (int slot = 0; slot < SLOTS; slot++) {
                filled[slot] = other.filled[slot];
                if (filled[slot]) {
                    tables[slot].copyFrom(other.tables[slot]);
                }
            }
        }

        int countTables() {
            int count = 0;
            for (int slot = 0; slot < SLOTS; slot++) {
                if (filled[slot]) {
                    count++;
                }
            }
            return count;
        }
    }

    /**
     * A mapping is one int: six bits for each of X, Y and Z, X highest, each the number of a span or 0
     * if undefined. Spans are numbered from 1 in their order, so ints compare as mappings do.
     */
    private static final class Mapping {
        static final int UNDEFINED = 0;
        static final int SPAN_BITS = 6;
        static final int SPAN_MASK = 63;
        /** X and Y together number the words of a set of mappings: (45 << 6) + 45 is the last one. */
        static final int WORDS = 2926;

        private static final int[] FIRST_SPANS = {1, 10, 18, 25, 31, 36, 40, 43, 45};
        private static final int[] STARTS = {
            -1,
            0, 0, 0, 0, 0, 0, 0, 0, 0,
            1, 1, 1, 1, 1, 1, 1, 1,
            2, 2, 2, 2, 2, 2, 2,
            3, 3, 3, 3, 3, 3,
            4, 4, 4, 4, 4,
            5, 5, 5, 5,
            6, 6, 6,
            7, 7,
            8
        };
        private static final int[] ENDS = {
            -1,
            0, 1, 2, 3, 4, 5, 6, 7, 8,
            1, 2, 3, 4, 5, 6, 7, 8,
            2, 3, 4, 5, 6, 7, 8,
            3, 4, 5, 6, 7, 8,
            4, 5, 6, 7, 8,
            5, 6, 7, 8,
            6, 7, 8,
            7, 8,
            8
        };

        static int spanFrom(int start, int end) {
            if (start < 0 || start >= FIRST_SPANS.length || end < start || end > MOST_LETTERS) {
                return UNDEFINED;
            }
            return FIRST_SPANS[start] + end - start;
        }

        static int startOf(int span) {
            return span < 0 || span >= STARTS.length ? NONE : STARTS[span];
        }

        static int endOf(int span) {
            return span < 0 || span >= ENDS.length ? NONE : ENDS[span];
        }

        static int lengthOf(int span) {
            return endOf(span) - startOf(span);
        }

        static int shiftOf(int variable) {
            return SPAN_BITS * (VARIABLES - 1 - variable);
        }

        static int spanOf(int mapping, int variable) {
            return mapping >> shiftOf(variable) & SPAN_MASK;
        }

        static boolean definesBoth(int mapping, int u, int v) {
            return spanOf(mapping, u) != UNDEFINED && spanOf(mapping, v) != UNDEFINED;
        }

        static int definedBy(int mapping) {
            int variables = 0;
            for (int variable = 0; variable < VARIABLES; variable++) {
                if (spanOf(mapping, variable) != UNDEFINED) {
                    variables |= 1 << variable;
                }
            }
            return variables;
        }

        static int bitsOf(int variables) {
            int bits = 0;
            for (int variable = 0; variable < VARIABLES; variable++) {
                if ((variables >> variable & 1) != 0) {
                    bits |= SPAN_MASK << shiftOf(variable);
                }
            }
            return bits;
        }

        static boolean compatible(int mapping, int other) {
            int unlike = mapping ^ other;
            for (int shift = 0; shift < VARIABLES * SPAN_BITS; shift += SPAN_BITS) {
                if ((unlike >> shift & SPAN_MASK) != 0
                        && (mapping >> shift & SPAN_MASK) != UNDEFINED
                        && (other >> shift & SPAN_MASK) != UNDEFINED) {
                    return false;
                }
            }
            return true;
        }

        static int exchanged(int mapping, int u, int v) {
            int unlike = spanOf(mapping, u) ^ spanOf(mapping, v);
            return mapping ^ (unlike << shiftOf(u)) ^ (unlike << shiftOf(v));
        }

        static boolean related(int span, int other, int relation) {
            switch (relation) {
                case 0:
                    return endOf(span) <= startOf(other);
                case 1:
                    return startOf(span) >= startOf(other) && endOf(span) <= endOf(other);
                case 2:
                    return startOf(span) == startOf(other);
                default:
                    return endOf(span) == endOf(other);
            }
        }
    }

    /** Takes what a search finds. */
    private abstract static class Collector {
        abstract void collect(int mapping);

        /** True when nothing more can change what is asked of the collector. */
        abstract boolean isFull();
    }

    /** At most 200 different ints in ascending order: the rows of a table, or the scores that occur. */
    private static final class SortedInts extends Collector {
        final int[] values = new int[MOST_ROWS];
        int count = 0;
        /** Set when an int was left out because 200 others were there. */
        boolean overfull = false;

        void empty() {
            count = 0;
            overfull = false;
        }

        void copyFrom(SortedInts other) {
            System.arraycopy(other.values, 0, values, 0, other.count);
            count = other.count;
            overfull = other.overfull;
        }

        void collect(int value) {
            int place = placeOf(value);
            if (place < count && values[place] == value) {
                return;
            }
            if (count >= MOST_ROWS) {
                overfull = true;
                return;
            }
            System.arraycopy(values, place, values, place + 1, count - place);
            values[place] = value;
            count++;
        }

        boolean isFull() {
            return overfull;
        }

        boolean has(int value) {
            int place = placeOf(value);
            return place < count && values[place] == value;
        }

        /** How many of the values are less. */
        int placeOf(int value) {
            int low = 0;
            int high = count;
            for (int step = 0; step < MOST_ROWS && low < high; step++) {
                int middle = (low + high) / 2;
                if (values[middle] < value) {
                    low = middle + 1;
                } else {
                    high = middle;
                }
            }
            return low;
        }
    }

    /** Any number of mappings, a bit each: X and Y choose the word, Z the bit. */
    private static final class MappingSet extends Collector {
        private final long[] words = new long[Mapping.WORDS];

        void empty() {
            Arrays.fill(words, 0L);
        }

        void collect(int mapping) {
            int word = mapping >> Mapping.SPAN_BITS;
            if (word >= 0 && word < words.length) {
                words[word] |= 1L << (mapping & Mapping.SPAN_MASK);
            }
        }

        boolean isFull() {
            return false;
        }

        boolean isSameAs(MappingSet other) {
            for (int word = 0; word < Mapping.WORDS; word++) {
                if (words[word] != other.words[word]) {
                    return false;
                }
            }
            return true;
        }
    }

    /** The grammar's characters, and where a text first leaves the grammar. */
    private static final class Syntax {
        static boolean isLetterOrDot(int character) {
            return character == '.' || (character >= 'a' && character <= 'z');
        }

        static boolean isVariable(int character) {
            return character >= 'X' && character <= 'Z';
        }

        static boolean isRepeater(int character) {
            return character == '*' || character == '+' || character == '?';
        }

        static boolean isCloser(int character) {
            return character == ')' || character == '}';
        }

        /** The error position of the text, or -1 if it is a formula. */
        static int firstFault(int[] text, int length) {
            int[] closers = new int[MOST_OPEN];
            int open = 0;
            int before = NONE;
            for (int at = 0; at < length && at < text.length; at++) {
                int character = text[at];
                int innermost = open > 0 && open <= MOST_OPEN ? closers[open - 1] : NONE;
                if (!isAllowed(character, before, innermost)) {
                    return at;
                }
                if (character == '(' || character == '{') {
                    if (open >= MOST_OPEN) {
                        return at;
                    }
                    closers[open] = character == '(' ? ')' : '}';
                    open++;
                } else if (isCloser(character)) {
                    open--;
                }
                before = character;
            }
            return open > 0 || isVariable(before) ? length : NONE;
        }

        private static boolean isAllowed(int character, int before, int innermost) {
            if (isVariable(before)) {
                return character == '{';
            }
            if (isRepeater(character)) {
                return isLetterOrDot(before) || isCloser(before);
            }
            if (isCloser(character)) {
                return character == innermost;
            }
            return isLetterOrDot(character) || isVariable(character) || character == '(' || character == '|';
        }
    }

    /**
     * A formula as an automaton that never changes. Its symbols are the characters of the text that
     * do something: a letter or dot reads, a variable opens, its closing brace closes; a symbol is
     * known by its index in the text, a set of symbols is a long. The accepting symbol follows the text.
     */
    private static final class Formula {
        final int[] text;
        final long[] follow;
        final long first;
        final long accept;
        /** The symbols that open variable v at v, those that close it at VARIABLES + v. */
        final long[] markers;
        final long allMarkers;
        final int mentioned;
        final int kind;

        Formula(int[] text, Part whole, long[] follow, long[] markers, int kind) {
            this.text = text;
            this.follow = follow;
            this.markers = markers;
            this.mentioned = whole.mentioned;
            this.kind = kind;
            accept = 1L << text.length;
            first = whole.nullable ? whole.first | accept : whole.first;
            long all = 0L;
            for (int marker = 0; marker < markers.length; marker++) {
                all |= markers[marker];
            }
            allMarkers = all;
        }

        long symbolsThatRead(int letter) {
            long symbols = 0L;
            for (int at = 0; at < text.length; at++) {
                if (text[at] == letter || text[at] == '.') {
                    symbols |= 1L << at;
                }
            }
            return symbols;
        }

        long followersOf(long symbols) {
            long followers = 0L;
            long rest = symbols;
            for (int left = Long.bitCount(symbols); left > 0; left--) {
                long lowest = rest & -rest;
                int at = Long.bitCount(lowest - 1L);
                if (at < follow.length) {
                    followers |= follow[at];
                }
                rest ^= lowest;
            }
            return followers;
        }

        /** Those of the symbols that one of the targets can follow. */
        long leadingTo(long symbols, long targets) {
            long leading = 0L;
            long rest = targets == 0L ? 0L : symbols;
            for (int left = Long.bitCount(rest); left > 0; left--) {
                long lowest = rest & -rest;
                int at = Long.bitCount(lowest - 1L);
                if (at < follow.length && (follow[at] & targets) != 0L) {
                    leading |= lowest;
                }
                rest ^= lowest;
            }
            return leading;
        }
    }

    /** What is known of a part of a formula: where it can begin and end, and what it mentions. */
    private static final class Part {
        final boolean nullable;
        final long first;
        final long last;
        final int mentioned;

        Part(boolean nullable, long first, long last, int mentioned) {
            this.nullable = nullable;
            this.first = first;
            this.last = last;
            this.mentioned = mentioned;
        }

        static Part ofSymbol(int at) {
            return new Part(false, 1L << at, 1L << at, 0);
        }

        static Part ofNothing() {
            return new Part(true, 0L, 0L, 0);
        }

        Part orNothing() {
            return new Part(true, first, last, mentioned);
        }

        Part or(Part other) {
            return new Part(nullable || other.nullable, first | other.first, last | other.last,
                    mentioned | other.mentioned);
        }

        Part then(Part next) {
            return new Part(nullable && next.nullable,
                    nullable ? first | next.first : first,
                    next.nullable ? last | next.last : next.last,
                    mentioned | next.mentioned);
        }
    }

    /** Builds the automaton of a text in which Syntax has found no fault. */
    private static final class FormulaReader {
        private final int[] text;
        private final long[] follow;
        private final long[] markers = new long[2 * VARIABLES];
        private int at = 0;
        private boolean sequential = true;
        private boolean functional = true;

        FormulaReader(int[] buffer, int count) {
            text = Arrays.copyOf(buffer, Math.max(0, Math.min(count, buffer.length)));
            follow = new long[text.length];
        }

        Formula read() {
            Part whole = readFormula(0);
            link(whole.last, 1L << text.length);
            int kind = 0;
            if (sequential) {
                kind = functional ? 2 : 1;
            }
            return new Formula(text, whole, follow, markers, kind);
        }

        private Part readFormula(int depth) {
            if (depth > MOST_OPEN) {
                return Part.ofNothing();
            }
            Part whole = readSequence(depth);
            for (int round = 0; round < text.length && nextCharacter() == '|'; round++) {
                at++;
                Part sequence = readSequence(depth);
                if (sequence.mentioned != whole.mentioned) {
                    functional = false;
                }
                whole = whole.or(sequence);
            }
            return whole;
        }

        private Part readSequence(int depth) {
            Part whole = Part.ofNothing();
            for (int round = 0; round < text.length && isItemNext(); round++) {
                Part item = readItem(depth);
                if ((whole.mentioned & item.mentioned) != 0) {
                    sequential = false;
                }
                link(whole.last, item.first);
                whole = whole.then(item);
            }
            return whole;
        }

        private Part readItem(int depth) {
            Part atom = readAtom(depth);
            int repeater = nextCharacter();
            if (!Syntax.isRepeater(repeater)) {
                return atom;
            }
            at++;
            if (repeater == '?') {
                functional = functional && atom.mentioned == 0;
                return atom.orNothing();
            }
            sequential = sequential && atom.mentioned == 0;
            link(atom.last, atom.first);
            return repeater == '*' ? atom.orNothing() : atom;
        }

        private Part readAtom(int depth) {
            int character = nextCharacter();
            if (Syntax.isVariable(character)) {
                return readCapture(character - 'X', depth);
            }
            at++;
            if (character != '(') {
                return Part.ofSymbol(at - 1);
            }
            Part inside = readFormula(depth + 1);
            at++;
            return inside;
        }

        private Part readCapture(int variable, int depth) {
            long opening = 1L << at;
            at += 2;
            Part inside = readFormula(depth + 1);
            long closing = 1L << at;
            at++;
            int bit = 1 << variable;
            if ((inside.mentioned & bit) != 0) {
                sequential = false;
            }
            link(opening, inside.nullable ? inside.first | closing : inside.first);
            link(inside.last, closing);
            if (variable >= 0 && variable < VARIABLES) {
                markers[variable] |= opening;
                markers[VARIABLES + variable] |= closing;
            }
            return new Part(false, opening, closing, inside.mentioned | bit);
        }

        private void link(long symbols, long next) {
            for (int symbol = 0; symbol < follow.length; symbol++) {
                if ((symbols >> symbol & 1L) != 0L) {
                    follow[symbol] |= next;
                }
            }
        }

        private boolean isItemNext() {
            int character = nextCharacter();
            return character != NONE && character != '|' && !Syntax.isCloser(character);
        }

        private int nextCharacter() {
            return at < text.length ? text[at] : NONE;
        }
    }

    /**
     * Finds each mapping with which a formula matches a span of the document, and finds it once: at
     * every position it chooses the set of variables that open and close there and follows all runs
     * of the automaton that agree with this choice together.
     */
    private static final class Search {
        private static final int MARK_SETS = 64;

        /** For a position and the variables used up to it: the symbols from which a run can succeed. */
        private final long[][] alive = new long[POSITIONS][VARIABLE_SETS];
        /** For a position and a set of marks made there: the symbols that can come next. All 0 between calls. */
        private final long[][] reached = new long[POSITIONS][MARK_SETS];
        private final int[][] queues = new int[POSITIONS][MARK_SETS];
        private final long[] reading = new long[MOST_LETTERS];
        private final int[] openedAt = new int[VARIABLES];
        private Formula formula = null;
        private Collector found = null;
        private int end = 0;

        void run(Formula wanted, int[] letters, int from, int to, Collector collector) {
            if (from < 0 || from > to || to > MOST_LETTERS || to > letters.length) {
                return;
            }
            formula = wanted;
            found = collector;
            end = to;
            for (int position = from; position < to; position++) {
                reading[position] = formula.symbolsThatRead(letters[position]);
            }
            findAlive(from);
            long next = formula.first & alive[from][0];
            if (next != 0L) {
                explore(from, next, 0, 0, 0);
            }
        }

        private void findAlive(int from) {
            for (int position = end; position >= from; position--) {
                for (int used = VARIABLE_SETS - 1; used >= 0; used--) {
                    alive[position][used] = (used & ~formula.mentioned) == 0 ? aliveAt(position, used) : 0L;
                }
            }
        }

        private long aliveAt(int position, int used) {
            long symbols = position >= end ? formula.accept
                    : formula.leadingTo(reading[position], alive[position + 1][used]);
            for (int variable = 0; variable < VARIABLES; variable++) {
                int bit = 1 << variable;
                if ((used & bit) == 0) {
                    symbols |= formula.leadingTo(formula.markers[variable], alive[position][used | bit]);
                }
            }
            // At most three variables can close in a row without another symbol between them.
            for (int round = 0; round < VARIABLES; round++) {
                for (int variable = 0; variable < VARIABLES; variable++) {
                    symbols |= formula.leadingTo(formula.markers[VARIABLES + variable], symbols);
                }
            }
            return symbols;
        }

        private void explore(int position, long next, int used, int open, int mapping) {
            if (position > end || found.isFull()) {
                return;
            }
            reached[position][0] = next;
            queues[position][0] = 0;
            int count = 1;
            // Sets come in the order of how many marks they have, so one is complete at its turn.
            for (int turn = 0; turn < MARK_SETS && turn < count; turn++) {
                int marks = queues[position][turn];
                long here = reached[position][marks];
                reached[position][marks] = 0L;
                if ((here & formula.allMarkers) != 0L) {
                    count = addMarks(position, here, used, marks, count);
                }
                readOn(position, here, used, open, mapping, marks);
            }
        }

        /**
         * Enters every set with one mark more that can be reached, and returns the length of the queue. No
         * mark is made twice: a symbol that would open a used variable again is not alive.
         */
        private int addMarks(int position, long here, int used, int marks, int queued) {
            int count = queued;
            for (int mark = 0; mark < 2 * VARIABLES; mark++) {
                long symbols = here & formula.markers[mark];
                if (symbols == 0L) {
                    continue;
                }
                int more = marks | 1 << mark;
                long next = formula.followersOf(symbols) & alive[position][used | openedBy(more)];
                if (next != 0L && reached[position][more] == 0L && count < MARK_SETS) {
                    queues[position][count] = more;
                    count++;
                }
                reached[position][more] |= next;
            }
            return count;
        }

        private void readOn(int position, long here, int used, int open, int mapping, int marks) {
            int usedThen = used | openedBy(marks);
            int openThen = (open | openedBy(marks)) & ~closedBy(marks);
            int mappingThen = withMarks(mapping, marks, position);
            if (usedThen == formula.mentioned && openThen == 0) {
                // Some run succeeds, and no run can mark anything more.
                found.collect(mappingThen);
            } else if (position < end) {
                long next = formula.followersOf(here & reading[position]) & alive[position + 1][usedThen];
                if (next != 0L) {
                    explore(position + 1, next, usedThen, openThen, mappingThen);
                }
            } else if ((here & formula.accept) != 0L) {
                found.collect(mappingThen);
            }
        }

        private int withMarks(int mapping, int marks, int position) {
            int marked = mapping;
            for (int variable = 0; variable < VARIABLES; variable++) {
                if ((openedBy(marks) >> variable & 1) != 0) {
                    openedAt[variable] = position;
                }
                if ((closedBy(marks) >> variable & 1) != 0) {
                    marked |= Mapping.spanFrom(openedAt[variable], position) << Mapping.shiftOf(variable);
                }
            }
            return marked;
        }

        private static int openedBy(int marks) {
            return marks & VARIABLE_SETS - 1;
        }

        private static int closedBy(int marks) {
            return marks >> VARIABLES;
        }
    }
}
