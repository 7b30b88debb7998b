/** The boundary sentences of promises 1 to 9: a new object, the document, formulas. */
public final class BoundaryFormulaTest {
    private static final Check CHECK = new Check("BoundaryFormulaTest");
    private static final Sentences DOC = new Sentences(CHECK, 1, 9);
    private static final int MAX = Integer.MAX_VALUE;
    private static final int MIN = Integer.MIN_VALUE;

    public static void main(String[] args) {
        newObject();
        appendLetter();
        clearDocument();
        letter();
        appendCharacter();
        parse();
        errorPosition();
        formulaVariables();
        formulaKind();
        DOC.end();
    }

    private static void newObject() {
        DOC.promise(1);
        DOC.says("Creates an evaluator with an empty document, empty buffer, no formula, empty slots, a closed cursor and weights 1.");
        DocumentSpanner x = new DocumentSpanner();
        CHECK.raises(Check.INDEX, "letter(0)", () -> x.letter(0));
        CHECK.same("length", x.clearDocument(), 0);
        CHECK.same("first letter", x.appendLetter('a'), 1);
        CHECK.raises(Check.STATE, "formulaVariables", x::formulaVariables);
        CHECK.raises(Check.STATE, "formulaKind", x::formulaKind);
        CHECK.raises(Check.STATE, "extract", () -> x.extract(0));
        for (int slot = 0; slot < 6; slot++) {
            int empty = slot;
            CHECK.raises(Check.STATE, "size of slot " + slot, () -> x.size(empty));
            CHECK.same("clear slot " + slot, x.clear(slot), -1);
        }
        CHECK.raises(Check.STATE, "cursorRow", x::cursorRow);
        CHECK.raises(Check.STATE, "advance", () -> x.advance(0));
        CHECK.raises(Check.STATE, "skipTo", () -> x.skipTo(0));
        CHECK.raises(Check.STATE, "restore", x::restore);
        CHECK.same("errorPosition", x.errorPosition(), -1);
        CHECK.same("save", x.save(), 0);
        for (int variable = 0; variable < 3; variable++) {
            CHECK.same("weight of " + variable, x.setWeight(variable, 0), 1);
        }
        CHECK.same("parse", x.parse(), 0);
        CHECK.same("first character", new DocumentSpanner().appendCharacter('a'), 1);
    }

    private static void appendLetter() {
        DOC.promise(2);
        DOC.says("Appends a letter to the document.");
        for (char letter = 'a'; letter <= 'z'; letter++) {
            DocumentSpanner x = Spanner.with("q");
            x.appendLetter(letter);
            CHECK.same("behind the first one", x.letter(1), letter);
            CHECK.same("which stays", x.letter(0), 'q');
        }
        DOC.says("All slots become empty.");
        DocumentSpanner y = sixTables("abcdefg");
        y.openCursor(5);
        CHECK.same("the eighth letter", y.appendLetter('h'), 8);
        noTables(y);
        CHECK.raises(Check.STATE, "the cursor", y::cursorRow);
        DocumentSpanner z = sixTables("");
        CHECK.same("the first letter", z.appendLetter('h'), 1);
        noTables(z);
        DOC.says("letter: the letter, 97 (a) to 122 (z)");
        DocumentSpanner x = new DocumentSpanner();
        CHECK.same("97", x.appendLetter(97), 1);
        CHECK.same("122", x.appendLetter(122), 2);
        CHECK.same("97 stands", x.letter(0), 97);
        CHECK.same("122 stands", x.letter(1), 122);
        DOC.says("Returns the length of the document.");
        DocumentSpanner full = new DocumentSpanner();
        for (int length = 1; length <= 8; length++) {
            CHECK.same("length", full.appendLetter('z'), length);
        }
        DOC.says("Throws IllegalArgumentException if letter is out of range");
        for (int wrong : new int[] {96, 123, 0, -1, -97, 65, 90, 46, 97 + 256, 122 + 65536, MAX, MIN}) {
            CHECK.raises(Check.ARGUMENT, "appendLetter(" + wrong + ")", () -> x.appendLetter(wrong));
            CHECK.raises(Check.ARGUMENT, "on a full document, appendLetter(" + wrong + ")", () -> full.appendLetter(wrong));
        }
        CHECK.same("nothing was appended", x.clearDocument(), 2);
        DOC.says("Throws IllegalStateException if the document has 8 letters");
        DocumentSpanner tables = sixTables("abcdefgh");
        tables.openCursor(1);
        CHECK.raises(Check.STATE, "a", () -> tables.appendLetter('a'));
        CHECK.raises(Check.STATE, "z", () -> tables.appendLetter('z'));
        CHECK.same("the tables stay", tables.save(), 6);
        CHECK.same("the cursor stays", tables.cursorRow(), 0);
        CHECK.same("the last letter stays", tables.letter(7), 'h');
        CHECK.same("the letters stay", tables.clearDocument(), 8);
        CHECK.same("then there is room again", tables.appendLetter('a'), 1);
    }

    /** All six slots hold a table, slot 0 one without rows. */
    private static DocumentSpanner sixTables(String document) {
        DocumentSpanner x = Spanner.with(document);
        Spanner.extract(x, "zzzzzzzzz", 0);
        Spanner.formula(x, ".*X{.*}");
        for (int slot = 1; slot < 6; slot++) {
            x.extract(slot);
        }
        return x;
    }

    private static void noTables(DocumentSpanner x) {
        for (int slot = 0; slot < 6; slot++) {
            int empty = slot;
            CHECK.raises(Check.STATE, "size of slot " + slot, () -> x.size(empty));
        }
        CHECK.same("tables", x.save(), 0);
    }

    private static void clearDocument() {
        DOC.promise(3);
        DOC.says("Makes the document empty.");
        for (int length = 0; length <= 8; length++) {
            DocumentSpanner x = Spanner.with("abcdefgh".substring(0, length));
            x.clearDocument();
            for (int position = 0; position <= 8; position++) {
                int none = position;
                CHECK.raises(Check.INDEX, "a letter of " + length, () -> x.letter(none));
            }
            Spanner.extract(x, "X{}", 0);
            CHECK.same("it is matched as empty", Spanner.rows(x, 0), "X00");
        }
        DOC.says("All slots become empty.");
        for (String document : new String[] {"", "a", "abcdefgh"}) {
            DocumentSpanner x = sixTables(document);
            x.openCursor(0);
            x.clearDocument();
            noTables(x);
            CHECK.raises(Check.STATE, "the cursor", x::cursorRow);
        }
        DOC.says("Returns the previous length of the document.");
        for (int length = 0; length <= 8; length++) {
            DocumentSpanner x = Spanner.with("abcdefgh".substring(0, length));
            CHECK.same("length", x.clearDocument(), length);
            CHECK.same("once more", x.clearDocument(), 0);
        }
    }

    private static void letter() {
        DocumentSpanner x = Spanner.with("azbycxdw");
        DOC.promise(4);
        DOC.says("Returns a letter of the document.");
        for (int position = 0; position < 8; position++) {
            CHECK.same("letter " + position, x.letter(position), "azbycxdw".charAt(position));
        }
        DOC.says("position: the position of the letter, from 0");
        CHECK.same("position 0", x.letter(0), 'a');
        CHECK.same("position 7", x.letter(7), 'w');
        DOC.says("Returns the letter.");
        CHECK.same("the least", Spanner.with("a").letter(0), 97);
        CHECK.same("the greatest", Spanner.with("z").letter(0), 122);
        DOC.says("Throws IndexOutOfBoundsException if there is no letter at this position");
        for (int length = 0; length <= 8; length++) {
            DocumentSpanner y = Spanner.with("azbycxdw".substring(0, length));
            for (int wrong : new int[] {-1, length, length + 1, 8, 9, MAX, MIN}) {
                CHECK.raises(Check.INDEX, "letter(" + wrong + ") of " + length, () -> y.letter(wrong));
            }
        }
        DocumentSpanner shorter = Spanner.with("abc");
        Spanner.document(shorter, "d");
        CHECK.raises(Check.INDEX, "a letter of the former document", () -> shorter.letter(1));
    }

    private static void appendCharacter() {
        DOC.promise(5);
        DOC.says("Appends a character to the formula buffer.");
        DocumentSpanner order = Spanner.with("ab");
        Spanner.type(order, "ab");
        CHECK.same("behind the others", order.parse(), 2);
        CHECK.same("in this order", order.extract(0), 1);
        DocumentSpanner turned = Spanner.with("ab");
        Spanner.type(turned, "ba");
        CHECK.same("the other order", turned.parse(), 2);
        CHECK.same("does not match", turned.extract(0), 0);
        DOC.says("character: the character, 33 to 126");
        for (int character = 33; character <= 126; character++) {
            CHECK.same("character " + character, new DocumentSpanner().appendCharacter(character), 1);
        }
        DOC.says("Returns the number of characters in the buffer.");
        DocumentSpanner full = new DocumentSpanner();
        for (int count = 1; count <= 40; count++) {
            CHECK.same("count", full.appendCharacter(count % 2 == 0 ? 33 : 126), count);
        }
        DOC.says("Throws IllegalArgumentException if character is out of range");
        DocumentSpanner x = new DocumentSpanner();
        for (int wrong : new int[] {32, 127, 128, 0, -1, -33, 33 + 256, 126 + 65536, MAX, MIN}) {
            CHECK.raises(Check.ARGUMENT, "appendCharacter(" + wrong + ")", () -> x.appendCharacter(wrong));
            CHECK.raises(Check.ARGUMENT, "with a full buffer, appendCharacter(" + wrong + ")", () -> full.appendCharacter(wrong));
        }
        CHECK.same("nothing was appended", x.parse(), 0);
        DOC.says("Throws IllegalStateException if the buffer has 40 characters");
        CHECK.raises(Check.STATE, "33", () -> full.appendCharacter(33));
        CHECK.raises(Check.STATE, "126", () -> full.appendCharacter(126));
        DocumentSpanner letters = Spanner.with("a");
        Spanner.type(letters, "a".repeat(40));
        CHECK.raises(Check.STATE, "a 41st letter", () -> letters.appendCharacter('a'));
        CHECK.same("40 characters stay", letters.parse(), 40);
        Spanner.type(letters, "a".repeat(40));
        CHECK.raises(Check.STATE, "a 41st letter after parse", () -> letters.appendCharacter('a'));
    }

    private static void parse() {
        DOC.promise(6);
        DOC.says("Parses the buffer as a formula, which becomes the current formula, and empties the buffer.");
        DocumentSpanner x = Spanner.with("a");
        Spanner.type(x, "X{a}");
        CHECK.same("the first formula", x.parse(), 4);
        CHECK.same("is current", x.formulaVariables(), 1);
        Spanner.type(x, "Y{.}" + "|a".repeat(18));
        CHECK.same("a full buffer", x.parse(), 40);
        CHECK.same("takes its place", x.formulaVariables(), 2);
        CHECK.same("the buffer is empty", x.appendCharacter('b'), 1);
        DOC.says("An empty buffer is a formula with one sequence without items.");
        DocumentSpanner y = new DocumentSpanner();
        CHECK.same("parse", y.parse(), 0);
        CHECK.same("it mentions nothing", y.formulaVariables(), 0);
        CHECK.same("it is functional", y.formulaKind(), 2);
        CHECK.same("it matches the empty document", y.extract(0), 1);
        CHECK.same("with the empty mapping", y.domain(0), 0);
        y.appendLetter('a');
        CHECK.same("and no letter", y.extract(0), 0);
        Spanner.formula(y, "X{a}");
        CHECK.same("parse again", y.parse(), 0);
        CHECK.same("it takes the place of a formula", y.formulaVariables(), 0);
        DOC.says("If the buffer does not contain a formula, it is emptied as well, the error position is set, "
                + "and the current formula is kept.");
        DocumentSpanner z = Spanner.with("ab");
        Spanner.extract(z, ".*X{.}.*", 3);
        z.openCursor(3);
        z.advance(1);
        Spanner.type(z, "Y{a}".repeat(9) + "Z{a)");
        CHECK.raises(Check.ARGUMENT, "a full buffer", z::parse);
        CHECK.same("the error position", z.errorPosition(), 39);
        CHECK.same("the formula", z.formulaVariables(), 1);
        CHECK.same("its kind", z.formulaKind(), 2);
        CHECK.same("the table", Spanner.rows(z, 3), "X01; X12");
        CHECK.same("the cursor", z.cursorRow(), 1);
        CHECK.same("the document", z.letter(1), 'b');
        CHECK.same("the formula's result", z.extract(4), 2);
        for (int count = 1; count <= 40; count++) {
            CHECK.same("the buffer was emptied", z.appendCharacter('a'), count);
        }
        DOC.says("Returns the number of characters that were in the buffer.");
        for (int count = 0; count <= 40; count++) {
            CHECK.same("characters", Spanner.formula(new DocumentSpanner(), ".".repeat(count)), count);
        }
        DOC.says("Throws IllegalArgumentException if the buffer does not contain a formula");
        for (String wrong : new String[] {"*", "+", "?", ")", "}", "{", "(", "X", "X{", "a**", "(a", "a)", "W{a}", "!", "~", "A", "0"}) {
            DocumentSpanner none = new DocumentSpanner();
            Spanner.type(none, wrong);
            CHECK.raises(Check.ARGUMENT, "parse " + wrong, none::parse);
            CHECK.raises(Check.STATE, "there is still no formula", none::formulaKind);
            CHECK.same("the buffer is empty", none.parse(), 0);
        }
    }

    private static void errorAt(String text, int due) {
        DocumentSpanner x = new DocumentSpanner();
        Spanner.type(x, text);
        CHECK.raises(Check.ARGUMENT, "parse " + text, x::parse);
        CHECK.same("errorPosition of " + text, x.errorPosition(), due);
    }

    private static void errorPosition() {
        DOC.promise(7);
        DOC.says("Returns the error position of the latest call of parse: the index of the first character that is not allowed "
                + "at its place, or the number of characters if the formula ended too early.");
        errorAt("*", 0);
        errorAt("*)", 0);
        errorAt("a" + "*".repeat(39), 2);
        errorAt("a".repeat(39) + "!", 39);
        errorAt("a".repeat(38) + "*?", 39);
        errorAt("a".repeat(39) + "(", 40);
        errorAt("a".repeat(39) + "X", 40);
        errorAt("a".repeat(38) + "X{", 40);
        errorAt("(".repeat(6) + "a".repeat(34), 40);
        errorAt("(".repeat(40), 6);
        errorAt("X{".repeat(20), 13);
        errorAt("()".repeat(19) + "))", 38);
        errorAt("(", 1);
        errorAt("X", 1);
        errorAt("X{", 2);
        errorAt("X{a|", 4);
        errorAt("(X{a}", 5);
        errorAt("((((((((!", 6);
        errorAt("((((((X!", 7);
        errorAt("((((((X{!", 7);
        // Each neighbour of an allowed range of characters.
        for (char wrong : new char[] {'`', '{', '@', 'A', 'W', '[', '-', '/', ',', '&', '>', '~', '!'}) {
            errorAt("a" + wrong, 1);
        }
        DocumentSpanner latest = new DocumentSpanner();
        Spanner.type(latest, "aa*?");
        CHECK.raises(Check.ARGUMENT, "a first fault", latest::parse);
        CHECK.same("its position", latest.errorPosition(), 3);
        Spanner.type(latest, "(");
        CHECK.same("the latest call, not the buffer, counts", latest.errorPosition(), 3);
        CHECK.raises(Check.ARGUMENT, "a second fault", latest::parse);
        CHECK.same("the latest position", latest.errorPosition(), 1);
        DOC.says("Returns the position, or -1 if this call succeeded or there was none.");
        DocumentSpanner x = new DocumentSpanner();
        CHECK.same("no call", x.errorPosition(), -1);
        x.appendCharacter('*');
        CHECK.same("still none", x.errorPosition(), -1);
        CHECK.raises(Check.ARGUMENT, "a fault", x::parse);
        CHECK.same("position 0", x.errorPosition(), 0);
        x.clearDocument();
        x.appendLetter('a');
        CHECK.same("other calls leave it", x.errorPosition(), 0);
        x.parse();
        CHECK.same("an empty buffer succeeds", x.errorPosition(), -1);
    }

    private static void formulaVariables() {
        DOC.promise(8);
        DOC.says("Returns the variables that the current formula mentions.");
        String[] texts = {"", "a", "X{}", "Y{}", "Z{}", "((((((a))))))X{}", "X{Y{Z{}}}", "X{X{X{X{X{X{}}}}}}", "|||Z{}?"};
        int[] due = {0, 0, 1, 2, 4, 1, 7, 1, 4};
        for (int i = 0; i < texts.length; i++) {
            DocumentSpanner x = new DocumentSpanner();
            Spanner.formula(x, texts[i]);
            CHECK.same("variables of '" + texts[i] + "'", x.formulaVariables(), due[i]);
        }
        DOC.says("Returns a bit set, bit v for variable v.");
        String[] items = {"X{}", "Y{}", "Z{}"};
        for (int set = 0; set < 8; set++) {
            DocumentSpanner x = new DocumentSpanner();
            for (int variable = 2; variable >= 0; variable--) {
                Spanner.type(x, (set >> variable & 1) != 0 ? items[variable] : "");
            }
            x.parse();
            CHECK.same("bits", x.formulaVariables(), set);
        }
        DOC.says("Throws IllegalStateException if there is no current formula");
        withoutFormula(DocumentSpanner::formulaVariables);
    }

    private interface Question {
        long ask(DocumentSpanner x);
    }

    private static void withoutFormula(Question question) {
        DocumentSpanner x = Spanner.with("a");
        CHECK.raises(Check.STATE, "at first", () -> question.ask(x));
        Spanner.type(x, "X{a}");
        CHECK.raises(Check.STATE, "before parse", () -> question.ask(x));
        x.save();
        x.parse();
        CHECK.yes("there is one", question.ask(x) > 0);
        x.restore();
        CHECK.raises(Check.STATE, "a state without formula was restored", () -> question.ask(x));
        Spanner.type(x, "X{a");
        CHECK.raises(Check.ARGUMENT, "a fault", x::parse);
        CHECK.raises(Check.STATE, "after a fault", () -> question.ask(x));
    }

    private static void kind(String text, int due) {
        DocumentSpanner x = new DocumentSpanner();
        Spanner.formula(x, text);
        CHECK.same("kind of '" + text + "'", x.formulaKind(), due);
    }

    private static void formulaKind() {
        DOC.promise(9);
        DOC.says("Returns the kind of the current formula.");
        DocumentSpanner x = new DocumentSpanner();
        for (String text : new String[] {"X{X{}}", "X{}?", "X{}"}) {
            int due = text.length() == 6 ? 0 : text.length() == 4 ? 1 : 2;
            Spanner.formula(x, text);
            CHECK.same("kind of '" + text + "'", x.formulaKind(), due);
        }
        DOC.says("Returns 2 if it is functional, 1 if it is sequential but not functional, 0 if it is not sequential.");
        kind("", 2);
        kind("a?b*c+", 2);
        kind("X{}", 2);
        kind("|", 2);
        kind("X{}|", 1);
        kind("X{}?", 1);
        kind("X{}*", 0);
        kind("X{}+", 0);
        kind("X{}X{}", 0);
        kind("X{X{}}", 0);
        kind("X{}?|X{}X{}", 0);
        kind("(((((X{})))))", 2);
        kind("(((((X{})))))?", 1);
        kind("(((((X{})))))+", 0);
        DOC.says("Throws IllegalStateException if there is no current formula");
        withoutFormula(DocumentSpanner::formulaKind);
    }
}
