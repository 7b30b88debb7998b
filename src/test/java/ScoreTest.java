/** Promises 33 to 38: setWeight, score, classes, rank, best, total. */
public final class ScoreTest {
    private static final Check CHECK = new Check("ScoreTest");
    private static final int MAX = Integer.MAX_VALUE;
    private static final int MIN = Integer.MIN_VALUE;
    private static final int[] NO_SLOTS = {-1, 6, MAX, MIN};

    public static void main(String[] args) {
        weights();
        scores();
        overflows();
        classesAndRanks();
        bestRows();
        totals();
        faults();
        CHECK.end();
    }

    private static void weights() {
        DocumentSpanner x = new DocumentSpanner();
        CHECK.same("1 at first", x.setWeight(0, MAX), 1);
        CHECK.same("previous", x.setWeight(0, MIN), MAX);
        CHECK.same("previous", x.setWeight(0, 0), MIN);
        CHECK.same("others stay", x.setWeight(1, -7), 1);
        CHECK.same("others stay", x.setWeight(2, 3), 1);
        CHECK.same("previous of Y", x.setWeight(1, 0), -7);
        for (int wrong : new int[] {-1, 3, MAX, MIN}) {
            CHECK.raises(IndexOutOfBoundsException.class, "setWeight(" + wrong + ")", () -> x.setWeight(wrong, 0));
        }
    }

    private static void scores() {
        DocumentSpanner x = Spanner.with("abcd");
        Spanner.extract(x, "X{ab}Y{c}Z{}.|X{abc}Z{d}|abcd|abY{cd}", 0);
        CHECK.same("table", Spanner.rows(x, 0), "-; Y24; X02 Y23 Z33; X03 Z34");
        int[] due = {0, 2, 3, 4};
        for (int row = 0; row < 4; row++) {
            CHECK.same("weights 1", x.score(0, row), due[row]);
        }
        x.setWeight(0, 10);
        x.setWeight(1, -3);
        x.setWeight(2, 100);
        due = new int[] {0, -6, 17, 130};
        for (int row = 0; row < 4; row++) {
            CHECK.same("other weights", x.score(0, row), due[row]);
        }
    }

    private static void overflows() {
        DocumentSpanner x = Spanner.with("abcdefgh");
        Spanner.extract(x, "X{.*}|X{.?}.*|X{.}(Y{}|Y{.}Z{.}).*", 0);
        CHECK.same("table", Spanner.rows(x, 0), "X00; X01; X01 Y11; X01 Y12 Z23; X08");
        x.setWeight(0, MAX / 8);
        CHECK.same("the greatest product", x.score(0, 4), MAX / 8 * 8);
        x.setWeight(0, MAX / 8 + 1);
        CHECK.raises(ArithmeticException.class, "a greater product", () -> x.score(0, 4));
        CHECK.same("a row without overflow", x.score(0, 1), MAX / 8 + 1);
        x.setWeight(0, MIN / 8);
        CHECK.same("the least product", x.score(0, 4), MIN);
        x.setWeight(0, MIN / 8 - 1);
        CHECK.raises(ArithmeticException.class, "a lesser product", () -> x.score(0, 4));
        x.setWeight(0, MAX);
        CHECK.same("times 0", x.score(0, 0), 0);
        CHECK.same("times 1", x.score(0, 1), MAX);
        x.setWeight(1, MAX);
        CHECK.same("an empty span adds 0", x.score(0, 2), MAX);
        x.setWeight(2, -2);
        CHECK.raises(ArithmeticException.class, "X and Y overflow though Z is negative", () -> x.score(0, 3));
        x.setWeight(1, 0);
        CHECK.same("no overflow", x.score(0, 3), MAX - 2);
        x.setWeight(0, MIN);
        CHECK.raises(ArithmeticException.class, "below", () -> x.score(0, 3));
        x.setWeight(1, 2);
        CHECK.same("X first, then Y, then Z", x.score(0, 3), MIN);
    }

    private static void classesAndRanks() {
        DocumentSpanner x = Spanner.with("abcd");
        Spanner.extract(x, "X{.*}.*|aX{.}..|a|Y{...}.|abcd", 0);
        CHECK.same("table", Spanner.rows(x, 0), "-; Y03; X00; X01; X02; X03; X04; X12");
        CHECK.same("scores 0 3 0 1 2 3 4 1", x.classes(0), 5);
        int[] ranks = {4, 1, 4, 3, 2, 1, 0, 3};
        for (int row = 0; row < ranks.length; row++) {
            CHECK.same("rank of row " + row, x.rank(0, row), ranks[row]);
        }
        x.setWeight(0, -1);
        CHECK.same("scores 0 3 0 -1 -2 -3 -4 -1", x.classes(0), 6);
        ranks = new int[] {1, 0, 1, 2, 3, 4, 5, 2};
        for (int row = 0; row < ranks.length; row++) {
            CHECK.same("turned rank of row " + row, x.rank(0, row), ranks[row]);
        }
        x.setWeight(0, 0);
        x.setWeight(1, 0);
        CHECK.same("all the same", x.classes(0), 1);
        CHECK.same("all the first", x.rank(0, 7), 0);
        x.setWeight(0, MAX);
        CHECK.raises(ArithmeticException.class, "classes: a row overflows", () -> x.classes(0));
        CHECK.raises(ArithmeticException.class, "rank: another row overflows", () -> x.rank(0, 0));
        Spanner.extract(x, "X{.}...|Y{.}...", 1);
        x.setWeight(1, MIN);
        CHECK.same("far apart", x.classes(1), 2);
        CHECK.same("the greatest int", x.rank(1, 1), 0);
        CHECK.same("the least int", x.rank(1, 0), 1);
        Spanner.extract(x, "e", 2);
        CHECK.same("no rows", x.classes(2), 0);
        DocumentSpanner y = Spanner.with("aaaaaaaa");
        Spanner.extract(y, "X{.*}Y{.*}Z{.*}.*|X{.*}(Y{.*}|).*aa", 0);
        y.setWeight(0, 100);
        y.setWeight(1, -10);
        CHECK.same("200 rows, 165 scores", y.classes(0), 165);
    }

    private static void bestRows() {
        DocumentSpanner x = Spanner.with("abcd");
        Spanner.extract(x, "X{.*}.*|aX{.}..|a|Y{...}.|abcd", 0);
        int[] order = {6, 1, 5, 4, 3, 7, 0, 2};
        for (int index = 0; index < order.length; index++) {
            CHECK.same("best " + index, x.best(0, index), order[index]);
        }
        x.setWeight(0, -1);
        order = new int[] {1, 0, 2, 3, 7, 4, 5, 6};
        for (int index = 0; index < order.length; index++) {
            CHECK.same("turned best " + index, x.best(0, index), order[index]);
        }
        x.setWeight(0, MAX);
        CHECK.raises(ArithmeticException.class, "best: some row overflows", () -> x.best(0, 0));
        for (int wrong : new int[] {-1, 8, MAX, MIN}) {
            CHECK.raises(IndexOutOfBoundsException.class, "the index comes first", () -> x.best(0, wrong));
        }
        Spanner.extract(x, "X{.}...|Y{.}...", 1);
        x.setWeight(1, MIN);
        CHECK.same("the greatest int", x.best(1, 0), 1);
        CHECK.same("the least int", x.best(1, 1), 0);
    }

    private static void totals() {
        DocumentSpanner x = Spanner.with("abcd");
        Spanner.extract(x, "X{.*}.*|Y{...}.", 0);
        CHECK.same("sum", x.total(0), 13);
        x.setWeight(1, -4);
        CHECK.same("another sum", x.total(0), -2);
        Spanner.extract(x, "e", 1);
        CHECK.same("no rows", x.total(1), 0);
        x.setWeight(0, MAX);
        x.setWeight(1, MAX);
        x.setWeight(2, -1);
        Spanner.extract(x, "X{.}...|Y{.}...|Z{.}...", 2);
        CHECK.same("table", Spanner.rows(x, 2), "Z01; Y01; X01");
        CHECK.raises(ArithmeticException.class, "a sum overflows", () -> x.total(2));
        x.setWeight(1, MIN);
        CHECK.raises(ArithmeticException.class, "though the end would fit", () -> x.total(2));
        x.setWeight(2, 1);
        CHECK.same("in the order of the rows", x.total(2), 0);
        Spanner.extract(x, "X{..}..", 3);
        CHECK.raises(ArithmeticException.class, "a score overflows", () -> x.total(3));
    }

    private static void faults() {
        DocumentSpanner x = Spanner.with("ab");
        Spanner.extract(x, "X{.*}", 0);
        x.setWeight(0, MAX);
        Class<IndexOutOfBoundsException> index = IndexOutOfBoundsException.class;
        for (int wrong : NO_SLOTS) {
            CHECK.raises(index, "score slot", () -> x.score(wrong, 0));
            CHECK.raises(index, "classes slot", () -> x.classes(wrong));
            CHECK.raises(index, "rank slot", () -> x.rank(wrong, 0));
            CHECK.raises(index, "best slot", () -> x.best(wrong, 0));
            CHECK.raises(index, "total slot", () -> x.total(wrong));
            CHECK.raises(index, "score row", () -> x.score(0, wrong));
            CHECK.raises(index, "rank row before the overflow", () -> x.rank(0, wrong));
            CHECK.raises(index, "best index before the overflow", () -> x.best(0, wrong));
            CHECK.raises(IllegalStateException.class, "score: the table before the row", () -> x.score(1, wrong));
            CHECK.raises(IllegalStateException.class, "rank: the table before the row", () -> x.rank(1, wrong));
            CHECK.raises(IllegalStateException.class, "best: the table before the index", () -> x.best(1, wrong));
        }
        CHECK.raises(index, "score: row 1 of 1", () -> x.score(0, 1));
        CHECK.raises(index, "rank: row 1 of 1", () -> x.rank(0, 1));
        CHECK.raises(index, "best: index 1 of 1", () -> x.best(0, 1));
        CHECK.raises(IllegalStateException.class, "classes: no table", () -> x.classes(1));
        CHECK.raises(IllegalStateException.class, "total: no table", () -> x.total(1));
    }
}
