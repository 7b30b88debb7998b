/** The boundary sentences of promises 16 to 25: the operations of the algebra, and contained. */
public final class BoundaryAlgebraTest {
    private static final Check CHECK = new Check("BoundaryAlgebraTest");
    private static final Sentences DOC = new Sentences(CHECK, 16, 25);
    private static final int MAX = Integer.MAX_VALUE;
    private static final int MIN = Integer.MIN_VALUE;
    private static final String U = "u: a variable, 0 to 2";
    private static final String V = "v: a variable, 0 to 2, possibly the same";
    private static final String COUNT = "Returns the number of rows of the result.";
    private static final String TO_SAME_AS_A = "to: the slot for the result, possibly the same as a";
    private static final String NO_SLOT_OR_VARIABLE =
            "Throws IndexOutOfBoundsException if a or to is not a slot, or u or v is not a variable";
    private static final String NO_TABLE_IN_A = "Throws IllegalStateException if there is no table in a";
    private static final String NO_TABLE = "Throws IllegalStateException if there is no table in a or b";
    private static final String NO_TABLE_OR_TOO_MANY =
            "Throws IllegalStateException if there is no table in a or b, or the result would have more than 200 mappings";

    private interface Binary {
        int answer(DocumentSpanner x, int a, int b, int to);
    }

    private interface Unary {
        int answer(DocumentSpanner x, int a, int to);
    }

    private interface Selection {
        int answer(DocumentSpanner x, int u, int v);
    }

    public static void main(String[] args) {
        union();
        join();
        minus();
        antijoin();
        project();
        exchange();
        selectEqual();
        selectLength();
        selectRelation();
        contained();
        DOC.end();
    }

    /** Slot 0 has two rows, slot 1 two others, slot 2 a table without rows, slot 3 the empty mapping. */
    private static DocumentSpanner small() {
        DocumentSpanner x = Spanner.with("ab");
        Spanner.extract(x, "X{a}b|X{ab}", 0);
        Spanner.extract(x, "X{ab}Y{}|X{}Y{}ab", 1);
        Spanner.extract(x, "c", 2);
        Spanner.extract(x, "ab", 3);
        return x;
    }

    /** Slot 0 has the full table, slot 1 its first row, slot 2 the empty mapping, slot 3 no rows. */
    private static DocumentSpanner full() {
        DocumentSpanner x = Spanner.with(Spanner.EIGHT);
        Spanner.extract(x, Spanner.FULL, 0);
        Spanner.extract(x, "X{}.*", 1);
        Spanner.extract(x, ".*", 2);
        Spanner.extract(x, "", 3);
        return x;
    }

    /** Slot 0 gets the rows of all these formulas; slot 5 is used for it. */
    private static void allRows(DocumentSpanner x, String... formulas) {
        Spanner.extract(x, formulas[0], 0);
        for (String formula : formulas) {
            Spanner.extract(x, formula, 5);
            x.union(0, 5, 0);
        }
    }

    // ---- what the four operations on two tables share ----

    private static void result(Binary call, int a, int b, String due) {
        DocumentSpanner x = small();
        call.answer(x, a, b, 5);
        CHECK.same("slots " + a + " and " + b, Spanner.rows(x, 5), due);
    }

    /** What the operation gives for slots 0 and 1, for 1 and 0, and for 0 and 0. */
    private static void sharedSlots(Binary call, String due, String turned, String self) {
        DOC.says("b: the slot of the second table, possibly the same");
        result(call, 0, 1, due);
        result(call, 1, 0, turned);
        result(call, 0, 0, self);
        result(call, 2, 2, "none");
        DOC.says("to: the slot for the result, possibly one of these");
        for (int to = 0; to < 6; to++) {
            DocumentSpanner x = small();
            call.answer(x, 0, 1, to);
            CHECK.same("result in " + to, Spanner.rows(x, to), due);
            CHECK.same("slot 0", Spanner.rows(x, 0), to == 0 ? due : "X01; X02");
            CHECK.same("slot 1", Spanner.rows(x, 1), to == 1 ? due : "X00 Y00; X02 Y22");
        }
        DocumentSpanner same = small();
        call.answer(same, 0, 0, 0);
        CHECK.same("all three the same", Spanner.rows(same, 0), self);
    }

    private static void noSlot(Binary call) {
        DOC.says("Throws IndexOutOfBoundsException if a, b or to is not a slot");
        DocumentSpanner x = small();
        for (int wrong : Spanner.NO_SLOTS) {
            CHECK.raises(Check.INDEX, "a is " + wrong, () -> call.answer(x, wrong, 0, 0));
            CHECK.raises(Check.INDEX, "b is " + wrong, () -> call.answer(x, 0, wrong, 0));
            CHECK.raises(Check.INDEX, "to is " + wrong, () -> call.answer(x, 0, 0, wrong));
            CHECK.raises(Check.INDEX, "a is " + wrong + ", no table in b", () -> call.answer(x, wrong, 5, 0));
            CHECK.raises(Check.INDEX, "b is " + wrong + ", no table in a", () -> call.answer(x, 5, wrong, 0));
            CHECK.raises(Check.INDEX, "to is " + wrong + ", no tables", () -> call.answer(x, 5, 5, wrong));
        }
    }

    private static void noTable(Binary call) {
        DocumentSpanner x = small();
        x.openCursor(0);
        CHECK.raises(Check.STATE, "no table in a", () -> call.answer(x, 4, 0, 0));
        CHECK.raises(Check.STATE, "no table in b", () -> call.answer(x, 0, 4, 0));
        CHECK.raises(Check.STATE, "no table in either", () -> call.answer(x, 4, 5, 0));
        CHECK.raises(Check.STATE, "no table in a, no rows in b", () -> call.answer(x, 4, 2, 0));
        CHECK.raises(Check.STATE, "no rows in a, no table in b", () -> call.answer(x, 2, 4, 0));
        CHECK.same("the table of to stays", Spanner.rows(x, 0), "X01; X02");
        CHECK.same("the cursor stays", x.cursorRow(), 0);
        CHECK.raises(Check.STATE, "nothing is stored in an empty slot", () -> x.size(4));
    }

    private static void union() {
        DOC.promise(16);
        DOC.says("Stores the union of two tables: all mappings that are in at least one of them.");
        result(DocumentSpanner::union, 0, 1, "X00 Y00; X01; X02; X02 Y22");
        result(DocumentSpanner::union, 0, 2, "X01; X02");
        result(DocumentSpanner::union, 2, 0, "X01; X02");
        result(DocumentSpanner::union, 3, 2, "-");
        sharedSlots(DocumentSpanner::union, "X00 Y00; X01; X02; X02 Y22", "X00 Y00; X01; X02; X02 Y22", "X01; X02");
        DOC.says(COUNT);
        DocumentSpanner x = full();
        CHECK.same("none", x.union(3, 3, 5), 0);
        CHECK.same("one", x.union(1, 3, 5), 1);
        CHECK.same("200 with itself", x.union(0, 0, 5), 200);
        CHECK.same("200 and one of them", x.union(0, 1, 5), 200);
        CHECK.same("one of them and 200", x.union(1, 0, 5), 200);
        CHECK.same("199", x.minus(0, 1, 4), 199);
        CHECK.same("199 and another one", x.union(4, 2, 5), 200);
        CHECK.same("another one and 199", x.union(2, 4, 5), 200);
        noSlot(DocumentSpanner::union);
        DOC.says(NO_TABLE_OR_TOO_MANY);
        noTable(DocumentSpanner::union);
        CHECK.raises(Check.STATE, "200 and another one", () -> x.union(0, 2, 0));
        CHECK.raises(Check.STATE, "another one and 200", () -> x.union(2, 0, 2));
        CHECK.same("200 others", x.exchange(0, 0, 2, 5), 200);
        CHECK.raises(Check.STATE, "200 and 200 others", () -> x.union(0, 5, 5));
        CHECK.same("the tables stay", x.size(0) + x.size(2) + x.size(5), 401);
    }

    private static void join() {
        DOC.promise(17);
        DOC.says("Stores the natural join of two tables: the unions of all pairs of compatible mappings, one from each table.");
        result(DocumentSpanner::join, 0, 1, "X02 Y22");
        result(DocumentSpanner::join, 0, 2, "none");
        result(DocumentSpanner::join, 2, 0, "none");
        result(DocumentSpanner::join, 0, 3, "X01; X02");
        result(DocumentSpanner::join, 3, 1, "X00 Y00; X02 Y22");
        result(DocumentSpanner::join, 3, 3, "-");
        sharedSlots(DocumentSpanner::join, "X02 Y22", "X02 Y22", "X01; X02");
        DOC.says(COUNT);
        DocumentSpanner x = full();
        CHECK.same("none", x.join(0, 3, 5), 0);
        CHECK.same("200 with the empty mapping", x.join(0, 2, 5), 200);
        CHECK.same("200 with itself, in 40000 pairs", x.join(0, 0, 5), 200);
        CHECK.same("one with the empty mapping", x.join(1, 2, 5), 1);
        Spanner.extract(x, "X{.*}Y{}Z{}|.*", 4);
        CHECK.same("200, one of them from two pairs", x.join(0, 4, 5), 200);
        CHECK.same("the 53 with the first row's X", x.join(0, 1, 5), 53);
        noSlot(DocumentSpanner::join);
        DOC.says(NO_TABLE_OR_TOO_MANY);
        noTable(DocumentSpanner::join);
        // Of the full table, this one is compatible with X06 and two rows with which it gives an old row.
        Spanner.extract(x, ".*|X{......}Z{..}", 4);
        CHECK.raises(Check.STATE, "201 rows", () -> x.join(0, 4, 0));
        CHECK.raises(Check.STATE, "201 rows, the other way", () -> x.join(4, 0, 4));
        Spanner.extract(x, "X{}.*|Y{}.*|Z{}.*|.*", 5);
        CHECK.raises(Check.STATE, "many more rows", () -> x.join(0, 5, 1));
        CHECK.same("the tables stay", x.size(0) + x.size(1) + x.size(4) + x.size(5), 207);
        Spanner.extract(x, ".*|X{......}Z{..}", 4);
        x.minus(0, 1, 5);
        CHECK.same("200 rows from 199", x.join(5, 4, 5), 200);
    }

    private static void minus() {
        DOC.promise(18);
        DOC.says("Stores the difference of two tables: the mappings of the first one that are not in the second one.");
        result(DocumentSpanner::minus, 0, 1, "X01; X02");
        result(DocumentSpanner::minus, 0, 2, "X01; X02");
        result(DocumentSpanner::minus, 2, 0, "none");
        result(DocumentSpanner::minus, 0, 3, "X01; X02");
        result(DocumentSpanner::minus, 3, 0, "-");
        sharedSlots(DocumentSpanner::minus, "X01; X02", "X00 Y00; X02 Y22", "none");
        DOC.says(COUNT);
        DocumentSpanner x = full();
        CHECK.same("200 without itself", x.minus(0, 0, 5), 0);
        CHECK.same("200 without its first row", x.minus(0, 1, 5), 199);
        Spanner.extract(x, "X{.*}Y{}Z{}", 4);
        CHECK.same("200 without its last row", x.minus(0, 4, 5), 199);
        CHECK.same("200 without a row that is not there", x.minus(0, 2, 5), 200);
        CHECK.same("200 without no rows", x.minus(0, 3, 5), 200);
        CHECK.same("one without 200", x.minus(2, 0, 5), 1);
        noSlot(DocumentSpanner::minus);
        DOC.says(NO_TABLE);
        noTable(DocumentSpanner::minus);
    }

    private static void antijoin() {
        DOC.promise(19);
        DOC.says("Stores the antijoin of two tables: the mappings of the first one that are compatible with no mapping "
                + "of the second one.");
        result(DocumentSpanner::antijoin, 0, 1, "X01");
        result(DocumentSpanner::antijoin, 0, 2, "X01; X02");
        result(DocumentSpanner::antijoin, 2, 0, "none");
        result(DocumentSpanner::antijoin, 0, 3, "none");
        result(DocumentSpanner::antijoin, 3, 0, "none");
        result(DocumentSpanner::antijoin, 3, 2, "-");
        sharedSlots(DocumentSpanner::antijoin, "X01", "X00 Y00", "none");
        DOC.says(COUNT);
        DocumentSpanner x = full();
        CHECK.same("200 and itself", x.antijoin(0, 0, 5), 0);
        CHECK.same("200 and the empty mapping", x.antijoin(0, 2, 5), 0);
        CHECK.same("200 and no rows", x.antijoin(0, 3, 5), 200);
        CHECK.same("200 without the 53 with the first row's X", x.antijoin(0, 1, 5), 147);
        Spanner.extract(x, "X{.*}Y{}Z{}", 4);
        CHECK.same("200 and its last row", x.antijoin(0, 4, 5), 199);
        noSlot(DocumentSpanner::antijoin);
        DOC.says(NO_TABLE);
        noTable(DocumentSpanner::antijoin);
    }

    // ---- what the operations on one table share ----

    private static void sharedSlot(String sentence, Unary call, String due) {
        DOC.says(sentence);
        for (int to = 0; to < 6; to++) {
            DocumentSpanner x = small();
            call.answer(x, 1, to);
            CHECK.same("result in " + to, Spanner.rows(x, to), due);
            CHECK.same("slot 1", Spanner.rows(x, 1), to == 1 ? due : "X00 Y00; X02 Y22");
        }
    }

    private static void noSlot(Unary call) {
        DocumentSpanner x = small();
        for (int wrong : Spanner.NO_SLOTS) {
            CHECK.raises(Check.INDEX, "a is " + wrong, () -> call.answer(x, wrong, 0));
            CHECK.raises(Check.INDEX, "to is " + wrong, () -> call.answer(x, 0, wrong));
            CHECK.raises(Check.INDEX, "to is " + wrong + ", no table in a", () -> call.answer(x, 4, wrong));
        }
    }

    private static void noVariables(Selection call) {
        for (int wrong : Spanner.NO_VARIABLES) {
            CHECK.raises(Check.INDEX, "u is " + wrong, () -> call.answer(small(), wrong, 0));
            CHECK.raises(Check.INDEX, "v is " + wrong, () -> call.answer(small(), 0, wrong));
            CHECK.raises(Check.INDEX, "both are " + wrong, () -> call.answer(small(), wrong, wrong));
        }
    }

    private static void noTableIn(Unary call) {
        DOC.says(NO_TABLE_IN_A);
        DocumentSpanner x = small();
        x.openCursor(0);
        CHECK.raises(Check.STATE, "no table in 4", () -> call.answer(x, 4, 0));
        CHECK.raises(Check.STATE, "no table in 5", () -> call.answer(x, 5, 5));
        CHECK.same("the table of to stays", Spanner.rows(x, 0), "X01; X02");
        CHECK.same("the cursor stays", x.cursorRow(), 0);
        CHECK.raises(Check.STATE, "nothing is stored in an empty slot", () -> x.size(5));
        CHECK.same("a table without rows is a table", call.answer(x, 2, 2), 0);
    }

    private static void project() {
        DOC.promise(20);
        DOC.says("Stores the projection of a table: its mappings, each restricted to the variables of a set.");
        DocumentSpanner x = full();
        x.project(0, 0, 5);
        CHECK.same("to no variables", Spanner.rows(x, 5), "-");
        x.project(3, 0, 5);
        CHECK.same("of no rows", Spanner.rows(x, 5), "none");
        x.project(2, 7, 5);
        CHECK.same("of the empty mapping", Spanner.rows(x, 5), "-");
        x.project(0, 1, 5);
        CHECK.same("to X", Spanner.rows(x, 5), "X00; X01; X02; X03; X04; X05; X06; X07; X08");
        DOC.says("variables: the set of variables, 0 to 7, bit v for variable v");
        DocumentSpanner y = Spanner.with("abc");
        Spanner.extract(y, "X{a}Y{b}Z{c}", 0);
        String[] due = {"-", "X01", "Y12", "X01 Y12", "Z23", "X01 Z23", "Y12 Z23", "X01 Y12 Z23"};
        for (int set = 0; set < 8; set++) {
            y.project(0, set, 1);
            CHECK.same("set " + set, Spanner.rows(y, 1), due[set]);
        }
        sharedSlot("to: the slot for the result, possibly the same", (z, a, to) -> z.project(a, 2, to), "Y00; Y22");
        DOC.says(COUNT);
        CHECK.same("200 to all variables", x.project(0, 7, 5), 200);
        CHECK.same("200 to none", x.project(0, 0, 5), 1);
        CHECK.same("200 to X", x.project(0, 1, 5), 9);
        CHECK.same("no rows", x.project(3, 7, 5), 0);
        DOC.says("Throws IndexOutOfBoundsException if a or to is not a slot");
        noSlot((z, a, to) -> z.project(a, 7, to));
        noSlot((z, a, to) -> z.project(a, 8, to));
        DOC.says("Throws IllegalArgumentException if variables is out of range");
        for (int wrong : new int[] {-1, 8, -8, 15, 256, MAX, MIN}) {
            CHECK.raises(Check.ARGUMENT, "variables " + wrong, () -> small().project(0, wrong, 0));
            CHECK.raises(Check.ARGUMENT, "no table, variables " + wrong, () -> small().project(5, wrong, 0));
            CHECK.raises(Check.ARGUMENT, "a new object, variables " + wrong, () -> new DocumentSpanner().project(0, wrong, 0));
        }
        noTableIn((z, a, to) -> z.project(a, 7, to));
    }

    private static void exchange() {
        DOC.promise(21);
        DOC.says("Stores a table in which two variables are exchanged: each mapping gives to u what it gave to v, "
                + "and the other way round.");
        DocumentSpanner x = small();
        x.exchange(0, 0, 2, 5);
        CHECK.same("an undefined variable", Spanner.rows(x, 5), "Z01; Z02");
        x.exchange(0, 1, 2, 5);
        CHECK.same("two undefined variables", Spanner.rows(x, 5), "X01; X02");
        x.exchange(2, 0, 1, 5);
        CHECK.same("no rows", Spanner.rows(x, 5), "none");
        x.exchange(3, 0, 1, 5);
        CHECK.same("the empty mapping", Spanner.rows(x, 5), "-");
        DocumentSpanner y = Spanner.with("abc");
        Spanner.extract(y, "X{a}Y{b}Z{c}", 0);
        String[] due = {"X01 Y12 Z23", "X12 Y01 Z23", "X23 Y12 Z01", "X01 Y23 Z12"};
        DOC.says(U);
        for (int u = 0; u < 3; u++) {
            y.exchange(0, u, (u + 1) % 3, 1);
            CHECK.same(u + " and the next one", Spanner.rows(y, 1), due[u == 0 ? 1 : u == 1 ? 3 : 2]);
        }
        DOC.says(V);
        for (int v = 0; v < 3; v++) {
            y.exchange(0, 0, v, 1);
            CHECK.same("0 and " + v, Spanner.rows(y, 1), due[v]);
            y.exchange(0, v, v, 1);
            CHECK.same("twice " + v, Spanner.rows(y, 1), due[0]);
        }
        sharedSlot(TO_SAME_AS_A, (z, a, to) -> z.exchange(a, 0, 1, to), "X00 Y00; X22 Y02");
        DOC.says(COUNT);
        DocumentSpanner full = full();
        CHECK.same("200", full.exchange(0, 1, 2, 5), 200);
        CHECK.same("200 into the same", full.exchange(0, 2, 0, 0), 200);
        CHECK.same("none", full.exchange(3, 0, 1, 5), 0);
        DOC.says(NO_SLOT_OR_VARIABLE);
        noSlot((z, a, to) -> z.exchange(a, 0, 1, to));
        noVariables((z, u, v) -> z.exchange(0, u, v, 0));
        noVariables((z, u, v) -> z.exchange(5, u, v, 0));
        noTableIn((z, a, to) -> z.exchange(a, 0, 1, to));
    }

    private static void selectEqual() {
        DOC.promise(22);
        DOC.says("Stores the mappings of a table that define two variables with spans that cover equal sequences of letters.");
        DocumentSpanner x = Spanner.with("abcabcab");
        allRows(x, "X{...}Y{...}..|X{}.*Y{}|X{ab}.*Y{ab}", "X{ab}.Y{abc}..|X{.*}|Y{.*}|X{a}Y{}.*");
        CHECK.same("three to keep, four to leave out", x.size(0), 7);
        x.selectEqual(0, 0, 1, 1);
        CHECK.same("equal, empty ones too", Spanner.rows(x, 1), "X00 Y88; X02 Y68; X03 Y36");
        Spanner.extract(x, "X{abcabcab}Y{}|Y{X{.*}}|Z{.*}|.*", 0);
        x.selectEqual(0, 0, 1, 1);
        CHECK.same("the whole document", Spanner.rows(x, 1), "X08 Y08");
        x.selectEqual(0, 1, 0, 1);
        CHECK.same("turned", Spanner.rows(x, 1), "X08 Y08");
        Spanner.extract(x, ".*X{b}|.*Y{X{b}}|X{.......}.", 0);
        x.selectEqual(0, 0, 1, 1);
        CHECK.same("the last letter", Spanner.rows(x, 1), "X78 Y78");
        DocumentSpanner empty = new DocumentSpanner();
        Spanner.extract(empty, "X{}Y{}|X{}", 0);
        empty.selectEqual(0, 0, 1, 0);
        CHECK.same("on the empty document", Spanner.rows(empty, 0), "X00 Y00");
        DocumentSpanner z = Spanner.with("aba");
        Spanner.extract(z, "X{a}bY{a}|X{a}bZ{a}|Y{a}bZ{a}", 0);
        DOC.says(U);
        String[] rows = {"X01 Y23", "Y01 Z23", "X01 Z23"};
        for (int u = 0; u < 3; u++) {
            z.selectEqual(0, u, (u + 1) % 3, 1);
            CHECK.same(u + " and the next one", Spanner.rows(z, 1), rows[u]);
        }
        DOC.says(V);
        String[] with = {"X01 Z23; X01 Y23", "Y01 Z23; X01 Y23", "Y01 Z23; X01 Z23"};
        for (int v = 0; v < 3; v++) {
            z.selectEqual(0, v, v, 1);
            CHECK.same("twice " + v, Spanner.rows(z, 1), with[v]);
        }
        sharedSlot(TO_SAME_AS_A, (y, a, to) -> y.selectEqual(a, 0, 1, to), "X00 Y00");
        DOC.says(COUNT);
        DocumentSpanner full = full();
        CHECK.same("200", full.selectEqual(0, 0, 0, 5), 200);
        CHECK.same("193 have Y", full.selectEqual(0, 1, 1, 5), 193);
        CHECK.same("none", full.selectEqual(2, 0, 0, 5), 0);
        DOC.says(NO_SLOT_OR_VARIABLE);
        noSlot((y, a, to) -> y.selectEqual(a, 0, 1, to));
        noVariables((y, u, v) -> y.selectEqual(0, u, v, 0));
        noVariables((y, u, v) -> y.selectEqual(5, u, v, 0));
        noTableIn((y, a, to) -> y.selectEqual(a, 0, 1, to));
    }

    private static void lengths(DocumentSpanner x, int least, int most, String due) {
        x.selectLength(0, 0, least, most, 1);
        CHECK.same(least + " to " + most, Spanner.rows(x, 1), due);
    }

    private static void selectLength() {
        DOC.promise(23);
        DOC.says("Stores the mappings of a table that define a variable with a span whose length is in a range.");
        DocumentSpanner x = Spanner.with("abcdefgh");
        Spanner.extract(x, "X{.*}|X{.}.*|X{}.*|Y{.*}|.*", 0);
        lengths(x, 0, 8, "X00; X01; X08");
        lengths(x, 0, 0, "X00");
        lengths(x, 8, 8, "X08");
        lengths(x, 1, 7, "X01");
        lengths(x, 2, 7, "none");
        lengths(x, 1, 0, "none");
        DOC.says("u: the variable, 0 to 2");
        Spanner.extract(x, "X{.}.*|Y{..}.*|Z{...}.*", 2);
        String[] due = {"X01", "Y02", "Z03"};
        for (int u = 0; u < 3; u++) {
            x.selectLength(2, u, 0, 8, 1);
            CHECK.same("variable " + u, Spanner.rows(x, 1), due[u]);
        }
        DOC.says("least: the least length, any int");
        lengths(x, MIN, 0, "X00");
        lengths(x, -1, 0, "X00");
        lengths(x, 9, MAX, "none");
        lengths(x, MAX, MAX, "none");
        DOC.says("most: the greatest length, any int");
        lengths(x, 8, MAX, "X08");
        lengths(x, 8, 9, "X08");
        lengths(x, MIN, MAX, "X00; X01; X08");
        lengths(x, MIN, -1, "none");
        lengths(x, MIN, MIN, "none");
        lengths(x, MAX, MIN, "none");
        sharedSlot(TO_SAME_AS_A, (y, a, to) -> y.selectLength(a, 0, 1, 2, to), "X02 Y22");
        DOC.says(COUNT);
        DocumentSpanner full = full();
        CHECK.same("200", full.selectLength(0, 0, MIN, MAX, 5), 200);
        CHECK.same("one", full.selectLength(0, 0, 8, MAX, 5), 1);
        CHECK.same("none", full.selectLength(0, 0, 9, MAX, 5), 0);
        DOC.says("Throws IndexOutOfBoundsException if a or to is not a slot, or u is not a variable");
        noSlot((y, a, to) -> y.selectLength(a, 0, 0, 8, to));
        for (int wrong : Spanner.NO_VARIABLES) {
            CHECK.raises(Check.INDEX, "u is " + wrong, () -> small().selectLength(0, wrong, 0, 8, 0));
            CHECK.raises(Check.INDEX, "no table, u is " + wrong, () -> small().selectLength(5, wrong, 0, 8, 0));
        }
        noTableIn((y, a, to) -> y.selectLength(a, 0, 0, 8, to));
    }

    private static void related(DocumentSpanner x, int relation, String due) {
        x.selectRelation(0, 0, 1, relation, 1);
        CHECK.same("relation " + relation, Spanner.rows(x, 1), due);
    }

    private static void selectRelation() {
        DOC.promise(24);
        DOC.says("Stores the mappings of a table that define two variables with spans that are in a relation.");
        DocumentSpanner one = Spanner.with("ab");
        Spanner.extract(one, "X{a}b|Y{ab}|Z{}ab|ab", 0);
        for (int relation = 0; relation < 4; relation++) {
            related(one, relation, "none");
        }
        DOC.says("relation: 0 before: the end of u is at most the start of v; 1 inside: the start of u is at least that of v, "
                + "and the end of u is at most that of v; 2 equal starts; 3 equal ends");
        DocumentSpanner x = Spanner.with("abc");
        allRows(x, "X{a}Y{b}c|X{a}.Y{c}|X{aY{b}}c|X{Y{a}b}c", "Y{X{a}b}c|Y{aX{b}}c|X{Y{ab}}c|X{}Y{}abc",
                "abcX{}Y{}|Y{a}X{b}c|Y{a.}X{c}", "X{a}Y{}bc|Y{a}X{}bc");
        CHECK.same("table", Spanner.rows(x, 0), "X00 Y00; X01 Y02; X01 Y11; X01 Y12; X01 Y23; X02 Y01; X02 Y02; X02 Y12; "
                + "X11 Y01; X12 Y01; X12 Y02; X23 Y02; X33 Y33");
        related(x, 0, "X00 Y00; X01 Y11; X01 Y12; X01 Y23; X33 Y33");
        related(x, 1, "X00 Y00; X01 Y02; X02 Y02; X11 Y01; X12 Y02; X33 Y33");
        related(x, 2, "X00 Y00; X01 Y02; X02 Y01; X02 Y02; X33 Y33");
        related(x, 3, "X00 Y00; X01 Y11; X02 Y02; X02 Y12; X11 Y01; X12 Y02; X33 Y33");
        DocumentSpanner z = Spanner.with("aba");
        Spanner.extract(z, "X{a}bY{a}|X{a}bZ{a}|Y{a}bZ{a}", 0);
        DOC.says(U);
        String[] before = {"X01 Y23", "Y01 Z23", "none"};
        for (int u = 0; u < 3; u++) {
            z.selectRelation(0, u, (u + 1) % 3, 0, 1);
            CHECK.same(u + " before the next one", Spanner.rows(z, 1), before[u]);
        }
        DOC.says(V);
        String[] with = {"X01 Z23; X01 Y23", "Y01 Z23; X01 Y23", "Y01 Z23; X01 Z23"};
        for (int v = 0; v < 3; v++) {
            z.selectRelation(0, v, v, 0, 1);
            CHECK.same(v + " is not before itself", Spanner.rows(z, 1), "none");
            for (int relation = 1; relation < 4; relation++) {
                z.selectRelation(0, v, v, relation, 1);
                CHECK.same("twice " + v, Spanner.rows(z, 1), with[v]);
            }
        }
        x.selectRelation(0, 0, 0, 0, 1);
        CHECK.same("an empty span is before itself", Spanner.rows(x, 1), "X00 Y00; X11 Y01; X33 Y33");
        sharedSlot(TO_SAME_AS_A, (y, a, to) -> y.selectRelation(a, 0, 1, 2, to), "X00 Y00");
        DOC.says(COUNT);
        DocumentSpanner full = full();
        CHECK.same("200", full.selectRelation(0, 0, 0, 3, 5), 200);
        CHECK.same("193 have Y behind X", full.selectRelation(0, 0, 1, 0, 5), 193);
        CHECK.same("none", full.selectRelation(3, 0, 0, 1, 5), 0);
        DOC.says(NO_SLOT_OR_VARIABLE);
        noSlot((y, a, to) -> y.selectRelation(a, 0, 1, 0, to));
        noSlot((y, a, to) -> y.selectRelation(a, 0, 1, 4, to));
        noVariables((y, u, v) -> y.selectRelation(0, u, v, 0, 0));
        noVariables((y, u, v) -> y.selectRelation(5, u, v, -1, 0));
        DOC.says("Throws IllegalArgumentException if relation is not 0 to 3");
        for (int wrong : new int[] {-1, 4, -4, 256, MAX, MIN}) {
            CHECK.raises(Check.ARGUMENT, "relation " + wrong, () -> small().selectRelation(0, 0, 1, wrong, 0));
            CHECK.raises(Check.ARGUMENT, "no table, relation " + wrong, () -> small().selectRelation(5, 0, 1, wrong, 0));
            CHECK.raises(Check.ARGUMENT, "no rows, relation " + wrong, () -> small().selectRelation(2, 0, 1, wrong, 0));
        }
        noTableIn((y, a, to) -> y.selectRelation(a, 0, 1, 0, to));
    }

    private static void contained() {
        DOC.promise(25);
        DOC.says("Returns whether every mapping of a table is in another table.");
        DocumentSpanner x = full();
        CHECK.yes("no rows in no rows", x.contained(3, 3));
        CHECK.yes("no rows in 200", x.contained(3, 0));
        CHECK.no("200 in no rows", x.contained(0, 3));
        CHECK.yes("the first row", x.contained(1, 0));
        Spanner.extract(x, "X{.*}Y{}Z{}", 4);
        CHECK.yes("the last row", x.contained(4, 0));
        CHECK.no("before the first row", x.contained(2, 0));
        Spanner.extract(x, ".X{.*}", 4);
        CHECK.no("behind the last row", x.contained(4, 0));
        CHECK.no("200 in one", x.contained(0, 1));
        DOC.says("b: the slot of the second table, possibly the same");
        for (int slot = 0; slot < 5; slot++) {
            CHECK.yes("slot " + slot, x.contained(slot, slot));
        }
        DOC.says("Returns true if all mappings of the first table are in the second one.");
        x.minus(0, 1, 4);
        CHECK.yes("199 in 200", x.contained(4, 0));
        CHECK.no("200 in 199", x.contained(0, 4));
        x.union(4, 2, 4);
        CHECK.no("200 and 200, all but one the same", x.contained(4, 0));
        CHECK.no("the other way", x.contained(0, 4));
        DOC.says("Throws IndexOutOfBoundsException if a or b is not a slot");
        for (int wrong : Spanner.NO_SLOTS) {
            CHECK.raises(Check.INDEX, "a is " + wrong, () -> x.contained(wrong, 0) ? 1 : 0);
            CHECK.raises(Check.INDEX, "b is " + wrong, () -> x.contained(0, wrong) ? 1 : 0);
            CHECK.raises(Check.INDEX, "a is " + wrong + ", no table in b", () -> x.contained(wrong, 5) ? 1 : 0);
            CHECK.raises(Check.INDEX, "b is " + wrong + ", no table in a", () -> x.contained(5, wrong) ? 1 : 0);
        }
        DOC.says(NO_TABLE);
        CHECK.raises(Check.STATE, "no table in a", () -> x.contained(5, 0) ? 1 : 0);
        CHECK.raises(Check.STATE, "no table in b", () -> x.contained(0, 5) ? 1 : 0);
        CHECK.raises(Check.STATE, "no rows in a, no table in b", () -> x.contained(3, 5) ? 1 : 0);
        CHECK.raises(Check.STATE, "no table, the same", () -> x.contained(5, 5) ? 1 : 0);
    }
}
