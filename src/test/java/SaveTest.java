/** Promises 39 and 40: save, restore. */
public final class SaveTest {
    private static final Check CHECK = new Check("SaveTest");

    public static void main(String[] args) {
        bringsBackState();
        keepsTheRest();
        savesWithoutFormula();
        replacesSavedState();
        keepsSavedState();
        savesAllSlots();
        CHECK.end();
    }

    private static void bringsBackState() {
        DocumentSpanner x = Spanner.with("ab");
        CHECK.raises(IllegalStateException.class, "nothing saved", x::restore);
        Spanner.extract(x, ".*X{.}.*", 0);
        Spanner.extract(x, "Y{.*}", 3);
        x.setWeight(0, 5);
        x.setWeight(2, -5);
        CHECK.same("two tables", x.save(), 2);
        Spanner.document(x, "cccc");
        Spanner.extract(x, "Z{c*}c*", 0);
        x.extract(4);
        x.setWeight(0, 6);
        x.setWeight(1, 7);
        x.setWeight(2, 8);
        CHECK.same("two tables again", x.restore(), 2);
        CHECK.same("first letter", x.letter(0), 'a');
        CHECK.same("last letter", x.letter(1), 'b');
        CHECK.raises(IndexOutOfBoundsException.class, "no more letters", () -> x.letter(2));
        CHECK.same("the formula", x.formulaVariables(), 2);
        CHECK.same("slot 0", Spanner.rows(x, 0), "X01; X12");
        CHECK.same("slot 3", Spanner.rows(x, 3), "Y02");
        CHECK.raises(IllegalStateException.class, "slot 4 is empty again", () -> x.size(4));
        CHECK.same("scores with the saved weights", x.total(0), 10);
        CHECK.same("weight of X", x.setWeight(0, 0), 5);
        CHECK.same("weight of Y", x.setWeight(1, 0), 1);
        CHECK.same("weight of Z", x.setWeight(2, 0), -5);
        CHECK.same("the formula still extracts", x.extract(5), 1);
        CHECK.same("on the saved document", x.end(5, 0, 1), 2);
    }

    private static void keepsTheRest() {
        DocumentSpanner x = Spanner.with("ab");
        Spanner.extract(x, ".*X{.}.*", 0);
        Spanner.type(x, "a");
        x.openCursor(0);
        x.advance(1);
        x.save();
        CHECK.same("save leaves the cursor", x.cursorRow(), 1);
        CHECK.same("save leaves the buffer", x.appendCharacter('*'), 2);
        x.restore();
        CHECK.raises(IllegalStateException.class, "restore closes the cursor", x::cursorRow);
        CHECK.same("restore leaves the buffer", x.appendCharacter('*'), 3);
        CHECK.raises(IllegalArgumentException.class, "a**", x::parse);
        CHECK.same("error position", x.errorPosition(), 2);
        x.restore();
        CHECK.same("restore leaves the error position", x.errorPosition(), 2);
        x.save();
        CHECK.same("and so does save", x.errorPosition(), 2);
        x.parse();
        x.restore();
        CHECK.same("restore does not bring it back", x.errorPosition(), -1);
        CHECK.same("nor the buffer", x.parse(), 0);
        x.openCursor(0);
        CHECK.same("one table", x.restore(), 1);
        CHECK.raises(IllegalStateException.class, "closed by every restore", x::cursorRow);
    }

    private static void savesWithoutFormula() {
        DocumentSpanner x = Spanner.with("ab");
        CHECK.same("no tables", x.save(), 0);
        Spanner.extract(x, "X{ab}", 0);
        CHECK.same("no tables", x.restore(), 0);
        CHECK.raises(IllegalStateException.class, "no formula", x::formulaKind);
        CHECK.raises(IllegalStateException.class, "no formula to extract", () -> x.extract(0));
        CHECK.raises(IllegalStateException.class, "no table", () -> x.size(0));
    }

    private static void replacesSavedState() {
        DocumentSpanner x = Spanner.with("ab");
        Spanner.extract(x, "X{ab}", 0);
        x.save();
        x.clear(0);
        Spanner.extract(x, "Y{}ab", 1);
        CHECK.same("one table", x.save(), 1);
        x.clearDocument();
        CHECK.same("one table", x.restore(), 1);
        CHECK.raises(IllegalStateException.class, "slot 0 was empty", () -> x.size(0));
        CHECK.same("slot 1", Spanner.rows(x, 1), "Y00");
    }

    private static void keepsSavedState() {
        DocumentSpanner x = Spanner.with("ab");
        Spanner.extract(x, "X{ab}|X{a}b", 0);
        x.save();
        for (int times = 0; times < 3; times++) {
            CHECK.same("one table", x.restore(), 1);
            CHECK.same("slot 0", Spanner.rows(x, 0), "X01; X02");
            CHECK.same("weight", x.setWeight(1, 9), 1);
            x.selectLength(0, 0, 2, 2, 0);
            CHECK.same("changed", Spanner.rows(x, 0), "X02");
            Spanner.document(x, "zzz");
            Spanner.formula(x, "Y{zzz}");
        }
        x.restore();
        CHECK.same("the document", x.letter(1), 'b');
        CHECK.same("the formula", x.formulaVariables(), 1);
    }

    private static void savesAllSlots() {
        DocumentSpanner x = Spanner.with("aaaaaaaa");
        Spanner.formula(x, "X{.*}Y{.*}Z{.*}.*|X{.*}(Y{.*}|).*aa");
        for (int slot = 0; slot < 6; slot++) {
            x.extract(slot);
        }
        CHECK.same("six tables", x.save(), 6);
        x.clearDocument();
        CHECK.same("six tables again", x.restore(), 6);
        for (int slot = 0; slot < 6; slot++) {
            CHECK.same("rows", x.size(slot), 200);
            CHECK.same("last row", x.start(slot, 199, 0), 0);
            CHECK.same("last row", x.end(slot, 199, 0), 8);
        }
        CHECK.yes("all equal", x.contained(0, 5) && x.contained(5, 0));
        CHECK.same("the document", x.clearDocument(), 8);
    }
}
