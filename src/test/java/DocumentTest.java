/** Promises 1 to 4: a new object, appendLetter, clearDocument, letter. */
public final class DocumentTest {
    private static final Check CHECK = new Check("DocumentTest");

    public static void main(String[] args) {
        newObject();
        appendsLetters();
        refusesLetters();
        appendingEmptiesSlots();
        clearsDocument();
        readsLetters();
        objectsAreApart();
        CHECK.end();
    }

    private static void newObject() {
        DocumentSpanner x = new DocumentSpanner();
        CHECK.raises(IndexOutOfBoundsException.class, "letter of an empty document", () -> x.letter(0));
        CHECK.raises(IllegalStateException.class, "no formula: variables", x::formulaVariables);
        CHECK.raises(IllegalStateException.class, "no formula: kind", x::formulaKind);
        CHECK.raises(IllegalStateException.class, "no formula: extract", () -> x.extract(0));
        CHECK.same("no parse yet", x.errorPosition(), -1);
        for (int slot = 0; slot < 6; slot++) {
            int empty = slot;
            CHECK.raises(IllegalStateException.class, "slots are empty", () -> x.size(empty));
            CHECK.same("an empty slot is cleared", x.clear(slot), -1);
        }
        CHECK.raises(IllegalStateException.class, "cursor is closed", x::cursorRow);
        CHECK.raises(IllegalStateException.class, "nothing saved", x::restore);
        for (int variable = 0; variable < 3; variable++) {
            CHECK.same("weights are 1", x.setWeight(variable, 5), 1);
        }
        CHECK.same("the buffer is empty", x.parse(), 0);
        CHECK.same("the document is empty", x.clearDocument(), 0);
    }

    private static void appendsLetters() {
        DocumentSpanner x = new DocumentSpanner();
        String letters = "azbycxdw";
        for (int i = 0; i < 8; i++) {
            CHECK.same("length", x.appendLetter(letters.charAt(i)), i + 1);
        }
        for (int i = 0; i < 8; i++) {
            CHECK.same("letter " + i, x.letter(i), letters.charAt(i));
        }
    }

    private static void refusesLetters() {
        DocumentSpanner x = Spanner.with("ab");
        for (int wrong : new int[] {96, 123, 65, 0, -1, 97 + 256, Integer.MAX_VALUE, Integer.MIN_VALUE}) {
            CHECK.raises(IllegalArgumentException.class, "appendLetter(" + wrong + ")", () -> x.appendLetter(wrong));
        }
        CHECK.same("nothing was appended", x.appendLetter('c'), 3);
        Spanner.document(x, "abcdefgh");
        Spanner.extract(x, ".*", 0);
        x.openCursor(0);
        CHECK.raises(IllegalStateException.class, "a ninth letter", () -> x.appendLetter('a'));
        CHECK.raises(IllegalArgumentException.class, "a wrong ninth letter", () -> x.appendLetter('A'));
        CHECK.same("a refused letter leaves the slots", x.size(0), 1);
        CHECK.same("a refused letter leaves the cursor", x.cursorRow(), 0);
        CHECK.same("a refused letter leaves the document", x.clearDocument(), 8);
    }

    private static void appendingEmptiesSlots() {
        DocumentSpanner x = Spanner.with("ab");
        Spanner.extract(x, ".*X{.}.*", 0);
        x.extract(5);
        x.openCursor(5);
        x.appendLetter('c');
        CHECK.raises(IllegalStateException.class, "slot 0 is empty", () -> x.size(0));
        CHECK.raises(IllegalStateException.class, "slot 5 is empty", () -> x.size(5));
        CHECK.raises(IllegalStateException.class, "the cursor's slot is gone", x::cursorRow);
        CHECK.same("the formula stays", x.extract(0), 3);
    }

    private static void clearsDocument() {
        DocumentSpanner x = Spanner.with("abc");
        Spanner.extract(x, ".*X{.}.*", 1);
        x.extract(4);
        x.openCursor(1);
        CHECK.same("previous length", x.clearDocument(), 3);
        CHECK.raises(IndexOutOfBoundsException.class, "no letter", () -> x.letter(0));
        CHECK.raises(IllegalStateException.class, "slot 1 is empty", () -> x.size(1));
        CHECK.raises(IllegalStateException.class, "slot 4 is empty", () -> x.size(4));
        CHECK.raises(IllegalStateException.class, "the cursor is closed", x::cursorRow);
        Spanner.extract(x, "", 2);
        x.openCursor(2);
        CHECK.same("an empty document", x.clearDocument(), 0);
        CHECK.raises(IllegalStateException.class, "slots become empty again", () -> x.size(2));
        CHECK.raises(IllegalStateException.class, "the cursor is closed again", x::cursorRow);
        CHECK.same("a new first letter", x.appendLetter('q'), 1);
        CHECK.same("read", x.letter(0), 'q');
    }

    private static void readsLetters() {
        DocumentSpanner x = Spanner.with("xyz");
        CHECK.same("first", x.letter(0), 'x');
        CHECK.same("last", x.letter(2), 'z');
        for (int wrong : new int[] {3, -1, 8, Integer.MAX_VALUE, Integer.MIN_VALUE}) {
            CHECK.raises(IndexOutOfBoundsException.class, "letter(" + wrong + ")", () -> x.letter(wrong));
        }
        x.clearDocument();
        x.appendLetter('a');
        CHECK.raises(IndexOutOfBoundsException.class, "a letter of the former document", () -> x.letter(1));
    }

    private static void objectsAreApart() {
        DocumentSpanner one = Spanner.with("a");
        DocumentSpanner other = new DocumentSpanner();
        Spanner.extract(one, "X{a}", 0);
        CHECK.raises(IndexOutOfBoundsException.class, "other document", () -> other.letter(0));
        CHECK.raises(IllegalStateException.class, "other formula", other::formulaKind);
        CHECK.raises(IllegalStateException.class, "other slot", () -> other.size(0));
    }
}
