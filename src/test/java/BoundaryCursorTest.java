/** The boundary sentences of promises 29 to 32: openCursor, cursorRow, advance, skipTo. */
public final class BoundaryCursorTest {
    private static final Check CHECK = new Check("BoundaryCursorTest");
    private static final Sentences DOC = new Sentences(CHECK, 29, 32);
    private static final int MAX = Integer.MAX_VALUE;
    private static final int MIN = Integer.MIN_VALUE;
    private static final String CLOSED = "Throws IllegalStateException if the cursor is closed";

    private interface Question {
        long ask(DocumentSpanner x);
    }

    public static void main(String[] args) {
        openCursor();
        cursorRow();
        advance();
        skipTo();
        DOC.end();
    }

    /** Slot 0 has a full table, slot 1 a row, slot 2 no rows; the others are empty. */
    private static DocumentSpanner tables() {
        DocumentSpanner x = Spanner.with(Spanner.EIGHT);
        Spanner.extract(x, Spanner.FULL, 0);
        Spanner.extract(x, "X{.*}", 1);
        Spanner.extract(x, "", 2);
        return x;
    }

    private static DocumentSpanner open(int slot, int row) {
        DocumentSpanner x = tables();
        x.openCursor(slot);
        x.advance(row);
        return x;
    }

    /** The cursor is closed at first, and after everything that closes it. */
    private static void closed(Question question) {
        CHECK.raises(Check.STATE, "of a new object", () -> question.ask(new DocumentSpanner()));
        CHECK.raises(Check.STATE, "never opened", () -> question.ask(tables()));
        DocumentSpanner cleared = open(0, 0);
        cleared.clear(0);
        CHECK.raises(Check.STATE, "its slot was cleared", () -> question.ask(cleared));
        DocumentSpanner stored = open(0, 0);
        stored.union(0, 0, 0);
        CHECK.raises(Check.STATE, "its slot has an equal table", () -> question.ask(stored));
        DocumentSpanner shorter = open(0, 0);
        shorter.clearDocument();
        CHECK.raises(Check.STATE, "the document was cleared", () -> question.ask(shorter));
        DocumentSpanner restored = open(0, 0);
        restored.save();
        restored.restore();
        CHECK.raises(Check.STATE, "a state was restored", () -> question.ask(restored));
        DocumentSpanner refused = tables();
        CHECK.raises(Check.STATE, "no table", () -> refused.openCursor(5));
        CHECK.raises(Check.STATE, "a refused call opened nothing", () -> question.ask(refused));
    }

    private static void openCursor() {
        DOC.promise(29);
        DOC.says("Opens the cursor at the first row of a table, or behind the last row if the table has no rows.");
        CHECK.same("200 rows", open(0, 0).cursorRow(), 0);
        CHECK.same("one row", open(1, 0).cursorRow(), 0);
        CHECK.same("no rows", open(2, 0).cursorRow(), -1);
        DocumentSpanner behind = open(0, MAX);
        behind.openCursor(0);
        CHECK.same("again, from behind the last row", behind.cursorRow(), 0);
        DOC.says("If it was open, it leaves its former slot.");
        DocumentSpanner x = open(0, 199);
        x.openCursor(1);
        CHECK.same("at the first row of the other one", x.cursorRow(), 0);
        x.clear(0);
        CHECK.same("the former slot does not close it", x.cursorRow(), 0);
        x.clear(1);
        CHECK.raises(Check.STATE, "the new one does", x::cursorRow);
        DOC.says("Returns the number of rows of the table.");
        DocumentSpanner y = tables();
        CHECK.same("200", y.openCursor(0), 200);
        CHECK.same("one", y.openCursor(1), 1);
        CHECK.same("none", y.openCursor(2), 0);
        y.extract(5);
        CHECK.same("in the last slot", y.openCursor(5), 0);
        DOC.says("Throws IndexOutOfBoundsException if slot is not a slot");
        DocumentSpanner z = open(0, 199);
        for (int wrong : Spanner.NO_SLOTS) {
            CHECK.raises(Check.INDEX, "slot " + wrong, () -> z.openCursor(wrong));
            CHECK.raises(Check.INDEX, "slot " + wrong + " of a new object", () -> new DocumentSpanner().openCursor(wrong));
            CHECK.same("the cursor stays", z.cursorRow(), 199);
        }
        DOC.says("Throws IllegalStateException if there is no table in the slot");
        for (int slot = 3; slot < 6; slot++) {
            int empty = slot;
            CHECK.raises(Check.STATE, "slot " + slot, () -> z.openCursor(empty));
            CHECK.same("the cursor stays", z.cursorRow(), 199);
        }
        z.clear(0);
        CHECK.raises(Check.STATE, "and in its slot", z::cursorRow);
        CHECK.raises(Check.STATE, "its former slot", () -> z.openCursor(0));
    }

    private static void cursorRow() {
        DOC.promise(30);
        DOC.says("Returns the row to which the cursor points.");
        DocumentSpanner x = open(0, 0);
        for (int row = 0; row < 200; row++) {
            CHECK.same("row", x.cursorRow(), row);
            CHECK.same("asking moves nothing", x.cursorRow(), row);
            x.advance(1);
        }
        DOC.says("Returns the row, or -1 if it is behind the last row.");
        CHECK.same("behind row 199", x.cursorRow(), -1);
        CHECK.same("the last row", open(0, 199).cursorRow(), 199);
        CHECK.same("behind the only row", open(1, 1).cursorRow(), -1);
        CHECK.same("without rows", open(2, 0).cursorRow(), -1);
        DOC.says(CLOSED);
        closed(DocumentSpanner::cursorRow);
    }

    private static void advance() {
        DOC.promise(31);
        DOC.says("Moves the cursor forward by a number of rows, but at most behind the last row.");
        DocumentSpanner x = open(0, 0);
        x.advance(198);
        CHECK.same("198", x.cursorRow(), 198);
        x.advance(1);
        CHECK.same("199", x.cursorRow(), 199);
        x.advance(1);
        CHECK.same("behind", x.cursorRow(), -1);
        x.advance(1);
        CHECK.same("it stays behind", x.cursorRow(), -1);
        x.clear(0);
        CHECK.raises(Check.STATE, "and in its slot", x::cursorRow);
        for (int rows : new int[] {199, 200, 201, 65536, MAX - 1, MAX}) {
            CHECK.same("from row 1 by " + rows, open(0, 1).advance(rows), -1);
            CHECK.same("from row 199 by " + rows, open(0, 199).advance(rows), -1);
            CHECK.same("from behind by " + rows, open(0, 200).advance(rows), -1);
            CHECK.same("without rows by " + rows, open(2, 0).advance(rows), -1);
        }
        DocumentSpanner twice = open(0, 0);
        twice.advance(MAX);
        twice.advance(MAX);
        CHECK.same("twice as far as can be", twice.advance(2), -1);
        // A place that went on behind the last row would pass the greatest int here.
        DocumentSpanner doubled = open(0, 199);
        for (int rows = 1; rows > 0; rows *= 2) {
            CHECK.same("from row 199 on by " + rows + " more", doubled.advance(rows), -1);
        }
        DOC.says("rows: the number of rows, 0 or more");
        CHECK.same("0 at the first row", open(0, 0).advance(0), 0);
        CHECK.same("0 at the last row", open(0, 199).advance(0), 199);
        CHECK.same("0 behind it", open(0, 200).advance(0), -1);
        CHECK.same("0 without rows", open(2, 0).advance(0), -1);
        DOC.says("Returns the row to which the cursor points then, or -1 if it is behind the last row.");
        CHECK.same("to the last row", open(0, 0).advance(199), 199);
        CHECK.same("behind it", open(0, 0).advance(200), -1);
        CHECK.same("behind the only row", open(1, 0).advance(1), -1);
        DOC.says("Throws IllegalArgumentException if rows is negative");
        DocumentSpanner z = open(0, 5);
        for (int wrong : new int[] {-1, -5, -200, MIN, MIN + 1}) {
            CHECK.raises(Check.ARGUMENT, "open, by " + wrong, () -> z.advance(wrong));
            CHECK.raises(Check.ARGUMENT, "closed, by " + wrong, () -> new DocumentSpanner().advance(wrong));
            CHECK.same("the cursor stays", z.cursorRow(), 5);
        }
        DOC.says(CLOSED);
        closed(y -> y.advance(0));
        closed(y -> y.advance(MAX));
    }

    private static void skipTo() {
        DOC.promise(32);
        DOC.says("Moves the cursor forward to the next row, from the row to which it points on, whose mapping defines X "
                + "with a span that starts at or after a position; behind the last row if there is none.");
        DocumentSpanner x = Spanner.with("abcdefgh");
        Spanner.extract(x, ".*|Z{.*}|Y{.*}|.*X{}.*", 0);
        CHECK.same("table", Spanner.rows(x, 0), "-; Z08; Y08; X00; X11; X22; X33; X44; X55; X66; X77; X88");
        x.openCursor(0);
        for (int position = 0; position <= 8; position++) {
            x.skipTo(position);
            CHECK.same("to " + position, x.cursorRow(), 3 + position);
            x.skipTo(position);
            CHECK.same("there already", x.cursorRow(), 3 + position);
            x.skipTo(0);
            CHECK.same("never back", x.cursorRow(), 3 + position);
        }
        x.skipTo(9);
        CHECK.same("behind the last row", x.cursorRow(), -1);
        x.skipTo(0);
        CHECK.same("never back from there", x.cursorRow(), -1);
        x.openCursor(0);
        x.advance(7);
        CHECK.same("the row itself counts", x.skipTo(4), 7);
        CHECK.same("from the row on", x.skipTo(7), 10);
        DOC.says("position: the position, any int");
        int[] positions = {MIN, -1, 0, 8, 9, MAX};
        int[] due = {3, 3, 3, 11, -1, -1};
        for (int i = 0; i < positions.length; i++) {
            x.openCursor(0);
            CHECK.same("to " + positions[i], x.skipTo(positions[i]), due[i]);
        }
        DOC.says("Returns the row to which the cursor points then, or -1 if it is behind the last row.");
        CHECK.same("no rows", open(2, 0).skipTo(MIN), -1);
        CHECK.same("the only row", open(1, 0).skipTo(0), 0);
        CHECK.same("behind the only row", open(1, 0).skipTo(1), -1);
        CHECK.same("all 200 start at 0", open(0, 0).skipTo(1), -1);
        CHECK.same("the last of them", open(0, 199).skipTo(0), 199);
        CHECK.same("behind the last of them", open(0, 200).skipTo(MIN), -1);
        DocumentSpanner noX = Spanner.with("ab");
        Spanner.extract(noX, "Y{.*}.*|Z{.*}", 0);
        noX.openCursor(0);
        CHECK.same("no row has X", noX.skipTo(MIN), -1);
        DOC.says(CLOSED);
        closed(y -> y.skipTo(0));
        closed(y -> y.skipTo(MIN));
    }
}
