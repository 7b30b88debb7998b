/** Promises 11 to 15: size, start, end, domain, clear. */
public final class TableTest {
    private static final Check CHECK = new Check("TableTest");
    private static final int[] NO_SLOTS = {-1, 6, 100, Integer.MAX_VALUE, Integer.MIN_VALUE};

    public static void main(String[] args) {
        sizes();
        spans();
        spanFaults();
        domains();
        clears();
        CHECK.end();
    }

    private static void sizes() {
        DocumentSpanner x = Spanner.with("ab");
        Spanner.extract(x, "c", 0);
        Spanner.extract(x, ".*", 1);
        Spanner.extract(x, ".*X{.}.*", 5);
        CHECK.same("no row", x.size(0), 0);
        CHECK.same("one row", x.size(1), 1);
        CHECK.same("two rows", x.size(5), 2);
        CHECK.raises(IllegalStateException.class, "no table", () -> x.size(2));
        for (int wrong : NO_SLOTS) {
            CHECK.raises(IndexOutOfBoundsException.class, "size(" + wrong + ")", () -> x.size(wrong));
        }
    }

    private static void spans() {
        DocumentSpanner x = Spanner.with("abcdefgh");
        Spanner.extract(x, ".*X{.*}.*", 0);
        int row = 0;
        for (int start = 0; start <= 8; start++) {
            for (int end = start; end <= 8; end++) {
                CHECK.same("start of row " + row, x.start(0, row, 0), start);
                CHECK.same("end of row " + row, x.end(0, row, 0), end);
                row++;
            }
        }
        Spanner.extract(x, "aY{b}.*Z{.}|X{.*}", 1);
        CHECK.same("start of Y", x.start(1, 0, 1), 1);
        CHECK.same("end of Y", x.end(1, 0, 1), 2);
        CHECK.same("start of Z", x.start(1, 0, 2), 7);
        CHECK.same("end of Z", x.end(1, 0, 2), 8);
        CHECK.same("no start of X", x.start(1, 0, 0), -1);
        CHECK.same("no end of X", x.end(1, 0, 0), -1);
        CHECK.same("row 1 has X", x.end(1, 1, 0), 8);
        CHECK.same("row 1 has no Z", x.end(1, 1, 2), -1);
        CHECK.same("row 1 has no Y", x.start(1, 1, 1), -1);
    }

    private static void spanFaults() {
        DocumentSpanner x = Spanner.with("ab");
        Spanner.extract(x, "X{.*}", 0);
        for (int wrong : NO_SLOTS) {
            CHECK.raises(IndexOutOfBoundsException.class, "start: slot", () -> x.start(wrong, 0, 0));
            CHECK.raises(IndexOutOfBoundsException.class, "end: slot", () -> x.end(wrong, 0, 0));
            CHECK.raises(IndexOutOfBoundsException.class, "start: variable", () -> x.start(0, 0, wrong));
            CHECK.raises(IndexOutOfBoundsException.class, "end: variable", () -> x.end(0, 0, wrong));
            CHECK.raises(IndexOutOfBoundsException.class, "start: row", () -> x.start(0, wrong, 0));
            CHECK.raises(IndexOutOfBoundsException.class, "end: row", () -> x.end(0, wrong, 0));
            CHECK.raises(IllegalStateException.class, "start: the table comes first", () -> x.start(1, wrong, wrong));
            CHECK.raises(IllegalStateException.class, "end: the table comes first", () -> x.end(1, wrong, wrong));
        }
        CHECK.raises(IndexOutOfBoundsException.class, "start: row 1 of 1", () -> x.start(0, 1, 0));
        CHECK.raises(IndexOutOfBoundsException.class, "end: row 1 of 1", () -> x.end(0, 1, 0));
        CHECK.raises(IndexOutOfBoundsException.class, "start: variable 3", () -> x.start(0, 0, 3));
        CHECK.raises(IndexOutOfBoundsException.class, "end: variable 3", () -> x.end(0, 0, 3));
        Spanner.extract(x, "c", 2);
        CHECK.raises(IndexOutOfBoundsException.class, "start: row 0 of 0", () -> x.start(2, 0, 0));
        x.appendLetter('c');
        CHECK.raises(IllegalStateException.class, "end: no table any more", () -> x.end(0, 0, 0));
    }

    private static void domains() {
        DocumentSpanner x = Spanner.with("ab");
        String[] formulas = {"ab", "c", "X{ab}", "aY{b}", "Z{}ab", "X{a}b|Z{a}b", "X{a}b|ab", "X{}Y{}Z{}ab", "X{c}|ab", "X{c}|Y{}ab"};
        int[] due = {0, 0, 1, 2, 4, 5, 1, 7, 0, 2};
        for (int i = 0; i < formulas.length; i++) {
            Spanner.extract(x, formulas[i], 3);
            CHECK.same("domain of " + formulas[i], x.domain(3), due[i]);
        }
        CHECK.raises(IllegalStateException.class, "no table", () -> x.domain(0));
        for (int wrong : NO_SLOTS) {
            CHECK.raises(IndexOutOfBoundsException.class, "domain(" + wrong + ")", () -> x.domain(wrong));
        }
    }

    private static void clears() {
        DocumentSpanner x = Spanner.with("ab");
        Spanner.extract(x, ".*X{.}.*", 0);
        x.extract(1);
        Spanner.extract(x, "c", 2);
        x.openCursor(1);
        CHECK.same("two rows", x.clear(0), 2);
        CHECK.raises(IllegalStateException.class, "then it is empty", () -> x.size(0));
        CHECK.same("already empty", x.clear(0), -1);
        CHECK.same("a table without rows", x.clear(2), 0);
        CHECK.same("and then empty", x.clear(2), -1);
        CHECK.same("other slots stay", x.size(1), 2);
        CHECK.same("a cursor elsewhere stays", x.cursorRow(), 0);
        CHECK.same("its slot", x.clear(1), 2);
        CHECK.raises(IllegalStateException.class, "the cursor is closed", x::cursorRow);
        for (int wrong : NO_SLOTS) {
            CHECK.raises(IndexOutOfBoundsException.class, "clear(" + wrong + ")", () -> x.clear(wrong));
        }
    }
}
