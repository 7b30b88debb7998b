/** The boundary sentences of promises 10 to 15: extract, and what is asked of a table. */
public final class BoundaryTableTest {
    private static final Check CHECK = new Check("BoundaryTableTest");
    private static final Sentences DOC = new Sentences(CHECK, 10, 15);
    private static final String IS_NO_SLOT = "Throws IndexOutOfBoundsException if slot is not a slot";
    private static final String NO_TABLE = "Throws IllegalStateException if there is no table in the slot";

    private interface Question {
        long ask(DocumentSpanner x, int slot);
    }

    private interface SpanQuestion {
        int ask(DocumentSpanner x, int slot, int row, int variable);
    }

    public static void main(String[] args) {
        extract();
        size();
        start();
        end();
        domain();
        clear();
        DOC.end();
    }

    private static void noSlot(DocumentSpanner x, Question question) {
        for (int wrong : Spanner.NO_SLOTS) {
            CHECK.raises(Check.INDEX, "slot " + wrong, () -> question.ask(x, wrong));
            CHECK.raises(Check.INDEX, "slot " + wrong + " of a new object", () -> question.ask(new DocumentSpanner(), wrong));
        }
    }

    /** There is no table at first, nor in the neighbours of a full slot, nor after it has become empty. */
    private static void noTable(Question question) {
        DocumentSpanner x = Spanner.with("ab");
        for (int slot = 0; slot < 6; slot++) {
            int asked = slot;
            CHECK.raises(Check.STATE, "at first, slot " + slot, () -> question.ask(x, asked));
        }
        Spanner.extract(x, "X{.*}", 3);
        for (int slot : new int[] {0, 1, 2, 4, 5}) {
            CHECK.raises(Check.STATE, "beside a table, slot " + slot, () -> question.ask(x, slot));
        }
        x.clear(3);
        CHECK.raises(Check.STATE, "after clear", () -> question.ask(x, 3));
        x.extract(3);
        x.appendLetter('c');
        CHECK.raises(Check.STATE, "after appendLetter", () -> question.ask(x, 3));
        x.extract(3);
        x.clearDocument();
        CHECK.raises(Check.STATE, "after clearDocument", () -> question.ask(x, 3));
        x.save();
        x.extract(3);
        x.restore();
        CHECK.raises(Check.STATE, "after restore", () -> question.ask(x, 3));
    }

    private static void extract() {
        DOC.promise(10);
        DOC.says("Stores the result of the current formula on the document in a slot.");
        for (int slot = 0; slot < 6; slot++) {
            DocumentSpanner x = Spanner.with("ab");
            Spanner.extract(x, ".*X{.*}.*", slot);
            CHECK.same("slot " + slot, Spanner.rows(x, slot), "X00; X01; X02; X11; X12; X22");
            CHECK.same("one table", x.save(), 1);
            Spanner.extract(x, "c", slot);
            CHECK.same("another one in its place", Spanner.rows(x, slot), "none");
        }
        DocumentSpanner empty = new DocumentSpanner();
        Spanner.extract(empty, ".*X{.*}.*", 0);
        CHECK.same("on the empty document", Spanner.rows(empty, 0), "X00");
        DOC.says("Returns the number of rows.");
        DocumentSpanner full = Spanner.with(Spanner.EIGHT);
        CHECK.same("none", Spanner.extract(full, "", 0), 0);
        CHECK.same("one", Spanner.extract(full, ".*", 0), 1);
        CHECK.same("as many as fit", Spanner.extract(full, Spanner.FULL, 0), 200);
        DOC.says("Throws IndexOutOfBoundsException if to is not a slot");
        noSlot(full, DocumentSpanner::extract);
        Spanner.formula(full, Spanner.OVERFULL);
        noSlot(full, DocumentSpanner::extract);
        DOC.says("Throws IllegalStateException if there is no current formula, or the result has more than 200 mappings");
        CHECK.raises(Check.STATE, "no formula", () -> new DocumentSpanner().extract(0));
        CHECK.raises(Check.STATE, "no formula", () -> new DocumentSpanner().extract(5));
        full.openCursor(0);
        full.advance(199);
        CHECK.raises(Check.STATE, "201 mappings", () -> full.extract(0));
        CHECK.raises(Check.STATE, "201 mappings into an empty slot", () -> full.extract(1));
        CHECK.same("the table stays", full.size(0), 200);
        CHECK.same("and the cursor", full.cursorRow(), 199);
        CHECK.raises(Check.STATE, "no table was stored", () -> full.size(1));
        Spanner.formula(full, "(X{.*}|Y{.*}|Z{.*}|.)*");
        CHECK.raises(Check.STATE, "thousands of mappings", () -> full.extract(0));
        CHECK.same("200 mappings again", Spanner.extract(full, Spanner.FULL, 1), 200);
    }

    private static void size() {
        DocumentSpanner x = Spanner.with(Spanner.EIGHT);
        DOC.promise(11);
        DOC.says("Returns the number of rows of a table.");
        for (int rows = 1; rows <= 9; rows++) {
            DocumentSpanner y = Spanner.with(Spanner.EIGHT.substring(0, rows - 1));
            Spanner.extract(y, "X{.*}.*", rows % 6);
            CHECK.same("rows", y.size(rows % 6), rows);
        }
        DOC.says("Returns the number of rows.");
        Spanner.extract(x, "", 0);
        Spanner.extract(x, Spanner.FULL, 5);
        CHECK.same("none", x.size(0), 0);
        CHECK.same("as many as fit", x.size(5), 200);
        DOC.says(IS_NO_SLOT);
        noSlot(x, DocumentSpanner::size);
        DOC.says(NO_TABLE);
        noTable(DocumentSpanner::size);
    }

    private static void start() {
        DocumentSpanner x = Spanner.with("abcdefgh");
        Spanner.extract(x, ".*X{.*}.*", 0);
        DOC.promise(12);
        DOC.says("Returns the start of a span.");
        CHECK.same("of the first span", x.start(0, 0, 0), 0);
        CHECK.same("of the longest span", x.start(0, 8, 0), 0);
        CHECK.same("of the next one", x.start(0, 9, 0), 1);
        CHECK.same("of the last span", x.start(0, 44, 0), 8);
        DOC.says("It is checked first whether slot is a slot, then whether there is a table, and then row and variable.");
        order((y, slot, row, variable) -> y.start(slot, row, variable));
        DOC.says("variable: the variable, 0 to 2");
        Spanner.extract(x, "aX{b}Y{c}Z{d}.*", 1);
        for (int variable = 0; variable < 3; variable++) {
            CHECK.same("variable " + variable, x.start(1, 0, variable), 1 + variable);
        }
        DOC.says("Returns the start, or -1 if the row does not define the variable.");
        Spanner.extract(x, "X{}.*|Y{}.*|Z{}.*", 2);
        undefined(x, (y, slot, row, variable) -> y.start(slot, row, variable), 0);
        DOC.says("Throws IndexOutOfBoundsException if slot is not a slot, or there is no such row or variable");
        noSpan((y, slot, row, variable) -> y.start(slot, row, variable));
        DOC.says(NO_TABLE);
        noTable((y, slot) -> y.start(slot, 0, 0));
    }

    private static void end() {
        DocumentSpanner x = Spanner.with("abcdefgh");
        Spanner.extract(x, ".*X{.*}.*", 0);
        DOC.promise(13);
        DOC.says("Returns the end of a span.");
        CHECK.same("of the first span", x.end(0, 0, 0), 0);
        CHECK.same("of the longest span", x.end(0, 8, 0), 8);
        CHECK.same("of the next one", x.end(0, 9, 0), 1);
        CHECK.same("of the last span", x.end(0, 44, 0), 8);
        DOC.says("The checks are those of start.");
        order((y, slot, row, variable) -> y.end(slot, row, variable));
        DOC.says("variable: the variable, 0 to 2");
        Spanner.extract(x, "aX{b}Y{c}Z{d}.*", 1);
        for (int variable = 0; variable < 3; variable++) {
            CHECK.same("variable " + variable, x.end(1, 0, variable), 2 + variable);
        }
        DOC.says("Returns the end, or -1 if the row does not define the variable.");
        Spanner.extract(x, ".*X{}|.*Y{}|.*Z{}", 2);
        undefined(x, (y, slot, row, variable) -> y.end(slot, row, variable), 8);
        DOC.says("Throws IndexOutOfBoundsException if slot is not a slot, or there is no such row or variable");
        noSpan((y, slot, row, variable) -> y.end(slot, row, variable));
        DOC.says(NO_TABLE);
        noTable((y, slot) -> y.end(slot, 0, 0));
    }

    /** Slot 2 has a row for Z, one for Y and one for X, in this order. */
    private static void undefined(DocumentSpanner x, SpanQuestion question, int due) {
        for (int row = 0; row < 3; row++) {
            for (int variable = 0; variable < 3; variable++) {
                CHECK.same("row " + row + ", variable " + variable, question.ask(x, 2, row, variable),
                        row + variable == 2 ? due : -1);
            }
        }
    }

    private static void order(SpanQuestion question) {
        DocumentSpanner x = Spanner.with("ab");
        Spanner.extract(x, "X{.*}", 0);
        for (int wrong : new int[] {-1, 6, Integer.MAX_VALUE, Integer.MIN_VALUE}) {
            CHECK.raises(Check.INDEX, "no slot, no row, no variable", () -> question.ask(x, wrong, wrong, wrong));
            CHECK.raises(Check.STATE, "no table, no row", () -> question.ask(x, 1, wrong, 0));
            CHECK.raises(Check.STATE, "no table, no variable", () -> question.ask(x, 1, 0, wrong));
            CHECK.raises(Check.STATE, "no table, neither of them", () -> question.ask(x, 5, wrong, wrong));
            CHECK.raises(Check.INDEX, "a table, neither of them", () -> question.ask(x, 0, wrong, wrong));
        }
    }

    private static void noSpan(SpanQuestion question) {
        DocumentSpanner x = Spanner.with(Spanner.EIGHT);
        Spanner.extract(x, "", 0);
        Spanner.extract(x, "X{.*}", 1);
        Spanner.extract(x, Spanner.FULL, 2);
        for (int slot : Spanner.NO_SLOTS) {
            CHECK.raises(Check.INDEX, "slot " + slot, () -> question.ask(x, slot, 0, 0));
        }
        int[] sizes = {0, 1, 200};
        for (int slot = 0; slot < 3; slot++) {
            int asked = slot;
            for (int row : new int[] {-1, sizes[slot], sizes[slot] + 1, 201, 256, Integer.MAX_VALUE, Integer.MIN_VALUE}) {
                CHECK.raises(Check.INDEX, "row " + row + " of " + sizes[slot], () -> question.ask(x, asked, row, 0));
            }
        }
        for (int variable : Spanner.NO_VARIABLES) {
            CHECK.raises(Check.INDEX, "variable " + variable, () -> question.ask(x, 1, 0, variable));
            CHECK.raises(Check.INDEX, "variable " + variable + " of the last row", () -> question.ask(x, 2, 199, variable));
        }
        CHECK.yes("the last row is there", question.ask(x, 2, 199, 2) == 8);
    }

    private static void domain() {
        DocumentSpanner x = Spanner.with(Spanner.EIGHT);
        DOC.promise(14);
        DOC.says("Returns the variables that at least one row of a table defines.");
        Spanner.extract(x, "", 0);
        CHECK.same("no row", x.domain(0), 0);
        Spanner.extract(x, ".*", 0);
        CHECK.same("a row without variables", x.domain(0), 0);
        Spanner.extract(x, Spanner.FULL, 0);
        CHECK.same("a full table", x.domain(0), 7);
        Spanner.extract(x, "X{.*}.*|Y{.*}.*|.*|Z{b}", 0);
        CHECK.same("mentioned, but not defined", x.domain(0), 3);
        Spanner.extract(x, "Z{.*}.*|X{.*}", 0);
        CHECK.same("the last row alone has X", x.domain(0), 5);
        DOC.says("Returns a bit set, bit v for variable v.");
        Spanner.extract(x, "X{}Y{}Z{}.*", 1);
        for (int set = 0; set < 8; set++) {
            x.project(1, set, 2);
            CHECK.same("bits", x.domain(2), set);
        }
        DOC.says(IS_NO_SLOT);
        noSlot(x, DocumentSpanner::domain);
        DOC.says(NO_TABLE);
        noTable(DocumentSpanner::domain);
    }

    private static void clear() {
        DOC.promise(15);
        DOC.says("Makes a slot empty.");
        DocumentSpanner x = Spanner.with("ab");
        Spanner.formula(x, ".*X{.}.*");
        for (int slot = 0; slot < 6; slot++) {
            x.extract(slot);
        }
        x.openCursor(5);
        for (int slot = 0; slot < 6; slot++) {
            int cleared = slot;
            CHECK.same("the cursor is in slot 5", x.cursorRow(), 0);
            x.clear(slot);
            CHECK.raises(Check.STATE, "slot " + slot, () -> x.size(cleared));
            CHECK.same("the slots behind it stay", x.save(), 5 - slot);
        }
        CHECK.raises(Check.STATE, "the cursor's slot", x::cursorRow);
        DOC.says("Returns the number of rows of its table, or -1 if it was empty.");
        DocumentSpanner y = Spanner.with(Spanner.EIGHT);
        CHECK.same("empty at first", y.clear(0), -1);
        Spanner.extract(y, "", 0);
        CHECK.same("a table without rows", y.clear(0), 0);
        CHECK.same("then it is empty", y.clear(0), -1);
        Spanner.extract(y, Spanner.FULL, 5);
        CHECK.same("a full table", y.clear(5), 200);
        CHECK.same("then it is empty", y.clear(5), -1);
        DOC.says(IS_NO_SLOT);
        y.extract(0);
        y.extract(5);
        noSlot(y, DocumentSpanner::clear);
        CHECK.same("all tables stay", y.save(), 2);
    }
}
