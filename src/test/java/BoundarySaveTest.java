/** The boundary sentences of promises 39 and 40: save, restore. */
public final class BoundarySaveTest {
    private static final Check CHECK = new Check("BoundarySaveTest");
    private static final Sentences DOC = new Sentences(CHECK, 39, 40);

    public static void main(String[] args) {
        save();
        restore();
        DOC.end();
    }

    /** A full document, six full tables, a formula and weights. */
    private static DocumentSpanner full() {
        DocumentSpanner x = Spanner.with(Spanner.EIGHT);
        Spanner.formula(x, Spanner.FULL);
        for (int slot = 0; slot < 6; slot++) {
            x.extract(slot);
        }
        x.setWeight(0, Integer.MAX_VALUE);
        x.setWeight(1, Integer.MIN_VALUE);
        x.setWeight(2, 0);
        return x;
    }

    private static void isFull(DocumentSpanner x) {
        for (int position = 0; position < 8; position++) {
            CHECK.same("letter " + position, x.letter(position), 'a');
        }
        CHECK.same("the formula", x.formulaVariables(), 7);
        for (int slot = 0; slot < 6; slot++) {
            CHECK.same("rows of slot " + slot, x.size(slot), 200);
            CHECK.same("its last row", x.end(slot, 199, 0), 8);
        }
        CHECK.same("weight of X", x.setWeight(0, 1), Integer.MAX_VALUE);
        CHECK.same("weight of Y", x.setWeight(1, 1), Integer.MIN_VALUE);
        CHECK.same("weight of Z", x.setWeight(2, 1), 0);
    }

    private static void isNew(DocumentSpanner x) {
        CHECK.raises(Check.INDEX, "no letter", () -> x.letter(0));
        CHECK.raises(Check.STATE, "no formula", x::formulaKind);
        for (int slot = 0; slot < 6; slot++) {
            CHECK.same("no table", x.clear(slot), -1);
        }
        for (int variable = 0; variable < 3; variable++) {
            CHECK.same("weights 1", x.setWeight(variable, 9), 1);
        }
        CHECK.same("the document is empty", x.clearDocument(), 0);
    }

    private static void save() {
        DOC.promise(39);
        DOC.says("Saves the document, the current formula, all slots and the weights, in place of an earlier saved state.");
        DocumentSpanner x = new DocumentSpanner();
        x.save();
        Spanner.document(x, "ab");
        Spanner.extract(x, "X{ab}", 3);
        x.setWeight(0, 7);
        x.restore();
        isNew(x);
        DocumentSpanner full = full();
        full.save();
        full.clearDocument();
        Spanner.formula(full, "Y{}");
        full.extract(2);
        full.restore();
        isFull(full);
        full.clearDocument();
        full.save();
        full.appendLetter('z');
        full.restore();
        CHECK.raises(Check.INDEX, "the earlier document is gone", () -> full.letter(0));
        CHECK.raises(Check.STATE, "the earlier tables are gone", () -> full.size(0));
        CHECK.same("the earlier weights are gone", full.setWeight(0, 1), 1);
        DOC.says("The buffer, the error position and the cursor are not saved.");
        DocumentSpanner z = Spanner.with("ab");
        Spanner.extract(z, ".*X{.}.*", 0);
        Spanner.type(z, "*");
        CHECK.raises(Check.ARGUMENT, "an error position", z::parse);
        Spanner.type(z, "a".repeat(40));
        z.openCursor(0);
        z.advance(1);
        z.save();
        CHECK.same("save leaves the cursor", z.cursorRow(), 1);
        CHECK.same("save leaves the error position", z.errorPosition(), 0);
        CHECK.raises(Check.STATE, "save leaves the full buffer", () -> z.appendCharacter('a'));
        z.parse();
        z.restore();
        CHECK.same("the buffer is still empty", z.parse(), 0);
        CHECK.same("the error position is still none", z.errorPosition(), -1);
        CHECK.raises(Check.STATE, "the cursor is not brought back", z::cursorRow);
        DOC.says("Returns the number of slots that hold a table.");
        DocumentSpanner count = Spanner.with("ab");
        CHECK.same("none", count.save(), 0);
        Spanner.formula(count, "c");
        for (int slot = 0; slot < 6; slot++) {
            count.extract(slot);
            CHECK.same("tables without rows count", count.save(), slot + 1);
        }
        count.clear(3);
        CHECK.same("five", count.save(), 5);
        count.appendLetter('c');
        CHECK.same("none again", count.save(), 0);
    }

    private static void restore() {
        DOC.promise(40);
        DOC.says("Restores the saved state, which is kept.");
        DocumentSpanner x = full();
        x.save();
        for (int times = 0; times < 3; times++) {
            x.clearDocument();
            x.appendLetter('z');
            Spanner.extract(x, "X{z}", 0);
            x.setWeight(0, 3);
            x.restore();
            isFull(x);
        }
        x.restore();
        x.restore();
        isFull(x);
        x.minus(0, 0, 0);
        x.restore();
        CHECK.same("a table that was changed in its place", x.size(0), 200);
        DocumentSpanner first = new DocumentSpanner();
        first.save();
        first.restore();
        isNew(first);
        DOC.says("The cursor is closed; the buffer and the error position do not change.");
        DocumentSpanner y = Spanner.with("ab");
        Spanner.extract(y, ".*X{.}.*", 0);
        y.save();
        y.openCursor(0);
        Spanner.type(y, "(");
        CHECK.raises(Check.ARGUMENT, "an error position", y::parse);
        Spanner.type(y, "a".repeat(40));
        y.restore();
        CHECK.raises(Check.STATE, "the cursor, though its table is the same", y::cursorRow);
        CHECK.same("the error position", y.errorPosition(), 1);
        CHECK.raises(Check.STATE, "the full buffer", () -> y.appendCharacter('a'));
        CHECK.same("and all its characters", y.parse(), 40);
        y.restore();
        CHECK.raises(Check.STATE, "a closed cursor stays closed", y::cursorRow);
        DOC.says("Returns the number of slots that hold a table.");
        CHECK.same("one", y.restore(), 1);
        DocumentSpanner six = full();
        six.save();
        six.clearDocument();
        CHECK.same("six", six.restore(), 6);
        DocumentSpanner none = new DocumentSpanner();
        none.save();
        none.parse();
        none.extract(0);
        CHECK.same("none", none.restore(), 0);
        DOC.says("Throws IllegalStateException if nothing was saved");
        CHECK.raises(Check.STATE, "a new object", () -> new DocumentSpanner().restore());
        DocumentSpanner refused = full();
        Spanner.type(refused, "ab");
        refused.openCursor(5);
        refused.advance(7);
        CHECK.raises(Check.STATE, "a full object", refused::restore);
        CHECK.same("the cursor stays", refused.cursorRow(), 7);
        isFull(refused);
        CHECK.same("the buffer stays", refused.parse(), 2);
        CHECK.raises(Check.STATE, "again", refused::restore);
        CHECK.same("then something is saved", refused.save(), 6);
        CHECK.same("and can be restored", refused.restore(), 6);
    }
}
