/** Promises 29 to 32: openCursor, cursorRow, advance, skipTo. */
public final class CursorTest {
    private static final Check CHECK = new Check("CursorTest");

    public static void main(String[] args) {
        opens();
        advances();
        skips();
        closes();
        CHECK.end();
    }

    private static void opens() {
        DocumentSpanner x = Spanner.with("abc");
        Spanner.extract(x, ".*X{.}.*", 0);
        Spanner.extract(x, "d", 1);
        CHECK.same("rows", x.openCursor(0), 3);
        CHECK.same("at the first row", x.cursorRow(), 0);
        x.advance(2);
        CHECK.same("opened again", x.openCursor(0), 3);
        CHECK.same("at the first row again", x.cursorRow(), 0);
        CHECK.same("no rows", x.openCursor(1), 0);
        CHECK.same("behind the last row", x.cursorRow(), -1);
        x.clear(0);
        CHECK.same("it has left its former slot", x.cursorRow(), -1);
        CHECK.raises(IllegalStateException.class, "no table", () -> x.openCursor(0));
        for (int wrong : new int[] {-1, 6, Integer.MAX_VALUE, Integer.MIN_VALUE}) {
            CHECK.raises(IndexOutOfBoundsException.class, "openCursor(" + wrong + ")", () -> x.openCursor(wrong));
        }
        CHECK.same("a refused call leaves the cursor", x.cursorRow(), -1);
    }

    private static void advances() {
        DocumentSpanner x = Spanner.with("abcd");
        CHECK.raises(IllegalStateException.class, "closed", () -> x.advance(0));
        CHECK.raises(IllegalArgumentException.class, "negative comes first", () -> x.advance(-1));
        Spanner.extract(x, ".*X{.}.*", 2);
        x.openCursor(2);
        CHECK.same("by 0", x.advance(0), 0);
        CHECK.same("by 1", x.advance(1), 1);
        CHECK.same("by 2", x.advance(2), 3);
        CHECK.same("where it is", x.cursorRow(), 3);
        CHECK.raises(IllegalArgumentException.class, "negative", () -> x.advance(Integer.MIN_VALUE));
        CHECK.same("it stays", x.cursorRow(), 3);
        CHECK.same("behind the last row", x.advance(1), -1);
        CHECK.same("it stays there", x.advance(Integer.MAX_VALUE), -1);
        CHECK.same("even by 0", x.advance(0), -1);
        x.openCursor(2);
        x.advance(1);
        CHECK.same("as far as can be", x.advance(Integer.MAX_VALUE), -1);
        CHECK.same("and is there", x.cursorRow(), -1);
    }

    private static void skips() {
        DocumentSpanner x = Spanner.with("abcd");
        CHECK.raises(IllegalStateException.class, "closed", () -> x.skipTo(0));
        Spanner.extract(x, "Y{.}.*|.*X{.}.*|bcX{}|aX{}Y{}bcd", 2);
        CHECK.same("table", Spanner.rows(x, 2), "Y01; X01; X11 Y11; X12; X23; X34");
        x.openCursor(2);
        CHECK.same("the first with X", x.skipTo(Integer.MIN_VALUE), 1);
        CHECK.same("from the row on", x.skipTo(0), 1);
        CHECK.same("to 1", x.skipTo(1), 2);
        CHECK.same("still 1", x.skipTo(1), 2);
        CHECK.same("never back", x.skipTo(0), 2);
        CHECK.same("to 3", x.skipTo(3), 5);
        CHECK.same("where it is", x.cursorRow(), 5);
        CHECK.same("to 4", x.skipTo(4), -1);
        CHECK.same("it is behind", x.cursorRow(), -1);
        CHECK.same("and stays", x.skipTo(0), -1);
        x.openCursor(2);
        CHECK.same("far away", x.skipTo(Integer.MAX_VALUE), -1);
        Spanner.extract(x, "Y{.}.*|.*Z{.}.*", 3);
        x.openCursor(3);
        CHECK.same("no X at all", x.skipTo(-5), -1);
    }

    private static void closes() {
        DocumentSpanner x = Spanner.with("ab");
        Spanner.extract(x, ".*X{.}.*", 0);
        x.openCursor(0);
        x.advance(1);
        x.extract(1);
        CHECK.same("another slot's table", x.cursorRow(), 1);
        x.extract(0);
        CHECK.raises(IllegalStateException.class, "an equal table", x::cursorRow);
        CHECK.raises(IllegalStateException.class, "advance", () -> x.advance(1));
        CHECK.raises(IllegalStateException.class, "skipTo", () -> x.skipTo(1));
        x.openCursor(0);
        x.clear(1);
        CHECK.same("another slot is cleared", x.cursorRow(), 0);
        x.clear(0);
        CHECK.raises(IllegalStateException.class, "its slot is cleared", x::cursorRow);
        x.extract(0);
        CHECK.raises(IllegalStateException.class, "a new table does not open it", x::cursorRow);
    }
}
