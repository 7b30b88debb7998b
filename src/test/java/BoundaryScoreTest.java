/** The boundary sentences of promises 33 to 38: setWeight, score, classes, rank, best, total. */
public final class BoundaryScoreTest {
    private static final Check CHECK = new Check("BoundaryScoreTest");
    private static final Sentences DOC = new Sentences(CHECK, 33, 38);
    private static final int MAX = Integer.MAX_VALUE;
    private static final int MIN = Integer.MIN_VALUE;
    private static final int BILLION = 1 << 30;
    private static final String IS_NO_SLOT = "Throws IndexOutOfBoundsException if slot is not a slot";
    private static final String NO_TABLE = "Throws IllegalStateException if there is no table in the slot";
    private static final String ROW_OVERFLOWS = "Throws ArithmeticException if the score of a row overflows";

    private interface Question {
        int ask(DocumentSpanner x, int slot);
    }

    private interface RowQuestion {
        int ask(DocumentSpanner x, int slot, int row);
    }

    public static void main(String[] args) {
        setWeight();
        score();
        classes();
        rank();
        best();
        total();
        DOC.end();
    }

    private static DocumentSpanner table(String document, String formula, int... weights) {
        DocumentSpanner x = Spanner.with(document);
        Spanner.extract(x, formula, 0);
        for (int variable = 0; variable < weights.length; variable++) {
            x.setWeight(variable, weights[variable]);
        }
        return x;
    }

    private static DocumentSpanner full(int... weights) {
        return table(Spanner.EIGHT, Spanner.FULL, weights);
    }

    /** Rows Z01, Y01 and X01, whose scores are the weights of Z, Y and X. */
    private static DocumentSpanner threeRows(int x, int y, int z) {
        return table("a", "X{a}|Y{a}|Z{a}", x, y, z);
    }

    private static void noSlot(Question question) {
        DocumentSpanner x = full(MAX);
        for (int wrong : Spanner.NO_SLOTS) {
            CHECK.raises(Check.INDEX, "slot " + wrong, () -> question.ask(x, wrong));
            CHECK.raises(Check.INDEX, "slot " + wrong + " of a new object", () -> question.ask(new DocumentSpanner(), wrong));
        }
    }

    private static void noTable(Question question) {
        DocumentSpanner x = full(MAX);
        for (int slot = 1; slot < 6; slot++) {
            int empty = slot;
            CHECK.raises(Check.STATE, "slot " + slot, () -> question.ask(x, empty));
        }
        x.clear(0);
        CHECK.raises(Check.STATE, "after clear", () -> question.ask(x, 0));
        CHECK.raises(Check.STATE, "of a new object", () -> question.ask(new DocumentSpanner(), 0));
    }

    private static void noRow(RowQuestion question) {
        noSlot((x, slot) -> question.ask(x, slot, 0));
        noSlot((x, slot) -> question.ask(x, slot, -1));
        DocumentSpanner x = full();
        Spanner.extract(x, "X{.*}", 1);
        Spanner.extract(x, "", 2);
        int[] sizes = {200, 1, 0};
        for (int slot = 0; slot < 3; slot++) {
            int asked = slot;
            for (int row : new int[] {-1, sizes[slot], sizes[slot] + 1, 256, MAX, MIN}) {
                CHECK.raises(Check.INDEX, row + " of " + sizes[slot], () -> question.ask(x, asked, row));
            }
        }
        CHECK.yes("the last one is there", question.ask(x, 0, 199) >= 0);
    }

    /** First the slot, then the table, then the row or index, then the overflow. */
    private static void order(RowQuestion question) {
        DocumentSpanner x = full(MAX);
        for (int wrong : new int[] {-1, 200, MAX, MIN}) {
            CHECK.raises(Check.INDEX, "no slot, " + wrong, () -> question.ask(x, 6, wrong));
            CHECK.raises(Check.STATE, "no table, " + wrong, () -> question.ask(x, 1, wrong));
            CHECK.raises(Check.INDEX, "overflow, " + wrong, () -> question.ask(x, 0, wrong));
        }
        CHECK.raises(Check.ARITHMETIC, "overflow", () -> question.ask(x, 0, 199));
    }

    private static void setWeight() {
        DOC.promise(33);
        DOC.says("Sets the weight of a variable.");
        DocumentSpanner x = table("a", "X{Y{Z{a}}}");
        CHECK.same("weights 1", x.score(0, 0), 3);
        x.setWeight(0, 100);
        CHECK.same("X", x.score(0, 0), 102);
        x.setWeight(1, 20);
        CHECK.same("Y", x.score(0, 0), 121);
        x.setWeight(2, -7);
        CHECK.same("Z", x.score(0, 0), 113);
        DOC.says("variable: the variable, 0 to 2");
        for (int variable = 0; variable < 3; variable++) {
            DocumentSpanner y = new DocumentSpanner();
            CHECK.same("variable " + variable, y.setWeight(variable, 9), 1);
            CHECK.same("another one", y.setWeight((variable + 1) % 3, 9), 1);
            CHECK.same("another one", y.setWeight((variable + 2) % 3, 9), 1);
        }
        DOC.says("weight: the weight, any int");
        int[] weights = {0, -1, MAX, MIN, MIN + 1, 1};
        for (int weight : weights) {
            DocumentSpanner y = threeRows(weight, weight, weight);
            for (int row = 0; row < 3; row++) {
                CHECK.same("weight " + weight, y.score(0, row), weight);
            }
        }
        DOC.says("Returns the previous weight.");
        DocumentSpanner z = new DocumentSpanner();
        int previous = 1;
        for (int weight : weights) {
            CHECK.same("before " + weight, z.setWeight(2, weight), previous);
            previous = weight;
        }
        CHECK.same("the same once more", z.setWeight(2, 1), 1);
        DOC.says("Throws IndexOutOfBoundsException if there is no such variable");
        for (int wrong : Spanner.NO_VARIABLES) {
            CHECK.raises(Check.INDEX, "variable " + wrong, () -> z.setWeight(wrong, 5));
        }
        for (int variable = 0; variable < 3; variable++) {
            CHECK.same("the weights stay", z.setWeight(variable, 5), 1);
        }
    }

    private static void scored(String formula, int due, int... weights) {
        CHECK.same(formula, table(Spanner.EIGHT, formula, weights).score(0, 0), due);
    }

    private static void overflows(String formula, int... weights) {
        DocumentSpanner x = table(Spanner.EIGHT, formula, weights);
        CHECK.raises(Check.ARITHMETIC, formula + " with " + weights[0], () -> x.score(0, 0));
    }

    private static void score() {
        DOC.promise(34);
        DOC.says("Returns the score of a row.");
        DocumentSpanner x = table("ab", ".*|Z{.*}|Y{}.*|X{.*}.*", 10, 20, 30);
        int[] due = {0, 60, 0, 0, 10, 20};
        for (int row = 0; row < due.length; row++) {
            CHECK.same("row " + row, x.score(0, row), due[row]);
        }
        DOC.says("It is checked first whether slot is a slot, then whether there is a table, then the row, and then the overflow.");
        order(DocumentSpanner::score);
        DOC.says("Returns the score.");
        scored(".*", 0, MAX, MAX, MAX);
        scored("X{}Y{}Z{}.*", 0, MAX, MIN, MAX);
        scored("X{.}.*", MAX, MAX);
        scored("X{.}.*", MIN, MIN);
        scored("X{.*}", MAX - 7, MAX / 8);
        scored("X{.*}", MIN, MIN / 8);
        scored("X{..}.*", MIN, -BILLION);
        scored("X{.}Y{.}.*", MAX, MAX - 1, 1);
        scored("X{.}Y{.}.*", MIN, MIN + 1, -1);
        scored("X{.}Y{.}.*", -1, MAX, MIN);
        scored("X{.}Y{.}Z{.}.*", MAX - 1, MIN, MAX, MAX);
        DOC.says("Throws IndexOutOfBoundsException if slot is not a slot, or there is no such row");
        noRow(DocumentSpanner::score);
        DOC.says(NO_TABLE);
        noTable((y, slot) -> y.score(slot, 0));
        DOC.says("Throws ArithmeticException if the score overflows");
        overflows("X{..}.*", BILLION);
        overflows("X{..}.*", -BILLION - 1);
        overflows("X{..}.*", MIN);
        overflows("X{....}.*", BILLION);
        overflows("X{.*}", BILLION / 2);
        overflows("X{.*}", MAX / 8 + 1);
        overflows("X{.*}", MIN / 8 - 1);
        overflows("X{...}.*", MIN);
        overflows("X{.}Y{.}.*", MAX, 1);
        overflows("X{.}Y{.}.*", MIN, -1);
        overflows("X{.}Y{.}.*", MIN, MIN);
        overflows("X{.}Y{.}Z{.}.*", MAX, MAX, 2);
        overflows("X{.}Y{.}Z{.}.*", MAX, 1, -1);
        overflows("X{.}Y{.}Z{.}.*", MIN, -1, 1);
        overflows("X{.}Y{..}.*", MIN, BILLION);
        DocumentSpanner rows = table("aa", "X{.*}.*", MAX);
        CHECK.same("another row may overflow", rows.score(0, 1), MAX);
        CHECK.raises(Check.ARITHMETIC, "this one does", () -> rows.score(0, 2));
        CHECK.same("the weight stays", rows.setWeight(0, 1), MAX);
    }

    private static void rowOverflows(Question question) {
        DocumentSpanner x = full(MAX);
        CHECK.raises(Check.ARITHMETIC, "most rows", () -> question.ask(x, 0));
        DocumentSpanner last = full(MAX / 8 + 1, 0, 0);
        CHECK.raises(Check.ARITHMETIC, "the last row alone", () -> question.ask(last, 0));
        last.setWeight(0, MIN / 8 - 1);
        CHECK.raises(Check.ARITHMETIC, "the last row alone, below", () -> question.ask(last, 0));
        DocumentSpanner first = table("aa", "Z{aa}|X{a}a", 1, 1, BILLION);
        CHECK.raises(Check.ARITHMETIC, "the first row alone", () -> question.ask(first, 0));
        first.setWeight(2, BILLION - 1);
        CHECK.yes("and then none", question.ask(first, 0) >= 0);
    }

    private static void classes() {
        DOC.promise(35);
        DOC.says("Returns the number of different scores of the rows of a table.");
        CHECK.same("all the same", full(0, 0, 0).classes(0), 1);
        CHECK.same("0 to 8", full().classes(0), 9);
        CHECK.same("all 200 different", allDifferent().classes(0), 200);
        CHECK.same("far apart", threeRows(MAX, MIN, 0).classes(0), 3);
        CHECK.same("the least twice", threeRows(MAX, MIN, MIN).classes(0), 2);
        CHECK.same("the greatest thrice", threeRows(MAX, MAX, MAX).classes(0), 1);
        DOC.says("Returns the number of different scores.");
        CHECK.same("no rows", table("a", "").classes(0), 0);
        CHECK.same("one row", table("a", "a").classes(0), 1);
        DOC.says(IS_NO_SLOT);
        noSlot(DocumentSpanner::classes);
        DOC.says(NO_TABLE);
        noTable(DocumentSpanner::classes);
        DOC.says(ROW_OVERFLOWS);
        rowOverflows(DocumentSpanner::classes);
    }

    /** 200 rows: X and Y with 0 to 4 letters, Z with 0 to 7, all from 0 on; their scores ascend. */
    private static DocumentSpanner allDifferent() {
        DocumentSpanner x = Spanner.with(Spanner.EIGHT);
        Spanner.extract(x, "X{.?.?.?.?}.*", 1);
        Spanner.extract(x, "Y{.?.?.?.?}.*", 2);
        Spanner.extract(x, "Z{.*}.+", 3);
        x.join(1, 2, 0);
        x.join(0, 3, 0);
        x.setWeight(0, 10000);
        x.setWeight(1, 100);
        x.setWeight(2, 1);
        return x;
    }

    private static void rank() {
        DOC.promise(36);
        DOC.says("Returns the rank of a row: the number of different scores of rows of the table that are greater than its score.");
        DocumentSpanner x = allDifferent();
        for (int row = 0; row < 200; row++) {
            CHECK.same("row " + row, x.rank(0, row), 199 - row);
        }
        DocumentSpanner y = full();
        CHECK.same("X00", y.rank(0, 0), 8);
        CHECK.same("X08 Y88 Z88", y.rank(0, 199), 0);
        DocumentSpanner z = threeRows(MIN, MAX, 0);
        CHECK.same("0 between", z.rank(0, 0), 1);
        CHECK.same("the least", z.rank(0, 2), 2);
        DOC.says("The checks are those of score, where the overflow of any row counts.");
        order(DocumentSpanner::rank);
        DocumentSpanner other = full(MAX / 8 + 1, 0, 0);
        CHECK.raises(Check.ARITHMETIC, "the overflow of another row", () -> other.rank(0, 0));
        CHECK.raises(Check.INDEX, "the row comes first", () -> other.rank(0, 200));
        DOC.says("Returns the rank, 0 for the rows with the greatest score.");
        CHECK.same("the only row", table("a", "a").rank(0, 0), 0);
        DocumentSpanner same = full(0, 0, 0);
        for (int row = 0; row < 200; row++) {
            CHECK.same("all the greatest", same.rank(0, row), 0);
        }
        CHECK.same("the greatest int", z.rank(0, 1), 0);
        CHECK.same("the least int alone", threeRows(MIN, MIN, MIN).rank(0, 2), 0);
        DOC.says("Throws IndexOutOfBoundsException if slot is not a slot, or there is no such row");
        noRow(DocumentSpanner::rank);
        DOC.says(NO_TABLE);
        noTable((w, slot) -> w.rank(slot, 0));
        DOC.says(ROW_OVERFLOWS);
        rowOverflows((w, slot) -> w.rank(slot, 0));
    }

    private static void order(DocumentSpanner x, int... due) {
        for (int index = 0; index < due.length; index++) {
            CHECK.same("index " + index, x.best(0, index), due[index]);
        }
    }

    private static void best() {
        DOC.promise(37);
        DOC.says("Returns a row in the order of descending scores, where rows with equal scores are in ascending order of their numbers.");
        order(threeRows(0, 0, 0), 0, 1, 2);
        order(threeRows(1, 0, 1), 0, 2, 1);
        order(threeRows(MAX, MIN, 0), 2, 0, 1);
        order(threeRows(MIN, MAX, MIN), 1, 0, 2);
        order(threeRows(MIN, MIN, MAX), 0, 1, 2);
        DocumentSpanner different = allDifferent();
        for (int index = 0; index < 200; index++) {
            CHECK.same("descending", different.best(0, index), 199 - index);
        }
        DocumentSpanner same = full(0, 0, 0);
        for (int index = 0; index < 200; index++) {
            CHECK.same("all the same", same.best(0, index), index);
        }
        DOC.says("It is checked first whether slot is a slot, then whether there is a table, then the index, and then the overflow.");
        order(DocumentSpanner::best);
        DOC.says("index: the index in this order, from 0");
        CHECK.same("the first", different.best(0, 0), 199);
        CHECK.same("the last", different.best(0, 199), 0);
        DOC.says("Returns the row.");
        CHECK.same("the only row", table("a", "a").best(0, 0), 0);
        DOC.says("Throws IndexOutOfBoundsException if slot is not a slot, or there is no such index");
        noRow(DocumentSpanner::best);
        DOC.says(NO_TABLE);
        noTable((x, slot) -> x.best(slot, 0));
        DOC.says(ROW_OVERFLOWS);
        rowOverflows((x, slot) -> x.best(slot, 0));
    }

    private static void total() {
        DOC.promise(38);
        DOC.says("Returns the sum of the scores of all rows of a table, added in ascending order of the rows, starting with 0.");
        CHECK.same("MAX, MIN, 1 in the order Z, Y, X", threeRows(1, MIN, MAX).total(0), 0);
        CHECK.same("MIN, MAX, 1", threeRows(1, MAX, MIN).total(0), 0);
        CHECK.same("-1, MAX, 1", threeRows(1, MAX, -1).total(0), MAX);
        CHECK.same("1, MIN, -1", threeRows(-1, MIN, 1).total(0), MIN);
        CHECK.same("200 rows, X alone", full(1, 0, 0).total(0), 407);
        DOC.says("Returns the sum, 0 without rows.");
        CHECK.same("no rows", table("a", "", MAX, MAX, MAX).total(0), 0);
        CHECK.same("a row without variables", table("a", "a", MAX, MAX, MAX).total(0), 0);
        CHECK.same("the greatest", table("a", "X{a}", MAX).total(0), MAX);
        CHECK.same("the least", table("a", "X{a}", MIN).total(0), MIN);
        DOC.says(IS_NO_SLOT);
        noSlot(DocumentSpanner::total);
        DOC.says(NO_TABLE);
        noTable(DocumentSpanner::total);
        DOC.says("Throws ArithmeticException if the score of a row or a sum overflows");
        rowOverflows(DocumentSpanner::total);
        CHECK.raises(Check.ARITHMETIC, "1 and MAX", () -> threeRows(0, MAX, 1).total(0));
        CHECK.raises(Check.ARITHMETIC, "-1 and MIN", () -> threeRows(0, MIN, -1).total(0));
        CHECK.raises(Check.ARITHMETIC, "the last sum alone", () -> threeRows(1, 1, MAX - 1).total(0));
        CHECK.raises(Check.ARITHMETIC, "the last sum alone, below", () -> threeRows(-1, -1, MIN + 1).total(0));
        CHECK.raises(Check.ARITHMETIC, "though the end would fit", () -> threeRows(MIN, 1, MAX).total(0));
        CHECK.raises(Check.ARITHMETIC, "though the end would be 0", () -> threeRows(2, MAX, MAX).total(0));
        CHECK.raises(Check.ARITHMETIC, "twice MIN would be 0", () -> threeRows(0, MIN, MIN).total(0));
        DocumentSpanner x = table(Spanner.EIGHT, ".*X{.}.*", BILLION / 4);
        CHECK.raises(Check.ARITHMETIC, "eight rows make 2 to the 31st", () -> x.total(0));
        CHECK.same("their scores do not overflow", x.score(0, 7), BILLION / 4);
        x.setWeight(0, -BILLION / 4);
        CHECK.same("below they just fit", x.total(0), MIN);
    }
}
