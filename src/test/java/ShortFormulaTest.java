/**
 * Promises 5 to 10: every text of up to four of the grammar's characters, and a character outside it,
 * is parsed and, if it is a formula, extracted on short documents; each answer is held against Reference.
 */
public final class ShortFormulaTest {
    private static final Check CHECK = new Check("ShortFormulaTest");
    private static final String SIGNS = "ab.*+?|(){}XYZ!";
    private static final int LONGEST = 4;
    private static final String[] DOCUMENTS = {"", "a", "ba"};

    public static void main(String[] args) {
        for (int length = 0; length <= LONGEST; length++) {
            allTexts("", length);
        }
        // Four signs are too few for a filled capture with a neighbour, so these begin with one.
        around("X{", "}", 3);
        around("X{Y{", "}}", 2);
        around("(X{a}|", ")*", 3);
        CHECK.end();
    }

    private static void allTexts(String begun, int left) {
        if (left == 0) {
            compare(begun);
            return;
        }
        for (char sign : SIGNS.toCharArray()) {
            allTexts(begun + sign, left - 1);
        }
    }

    private static void around(String before, String behind, int left) {
        if (left == 0) {
            compare(before + behind);
            return;
        }
        for (char sign : SIGNS.toCharArray()) {
            around(sign + before, behind, left - 1);
            around(before + sign, behind, left - 1);
            around(before, behind + sign, left - 1);
        }
    }

    private static void compare(String text) {
        DocumentSpanner spanner = new DocumentSpanner();
        Reference reference = new Reference();
        for (char sign : text.toCharArray()) {
            spanner.appendCharacter(sign);
            reference.appendCharacter(sign);
        }
        StringBuilder got = new StringBuilder(Check.outcome(spanner::parse));
        StringBuilder due = new StringBuilder(Check.outcome(reference::parse));
        got.append(" ").append(spanner.errorPosition());
        due.append(" ").append(reference.errorPosition());
        got.append(" ").append(Check.outcome(spanner::formulaKind)).append(" ").append(Check.outcome(spanner::formulaVariables));
        due.append(" ").append(Check.outcome(reference::formulaKind)).append(" ").append(Check.outcome(reference::formulaVariables));
        if (reference.errorPosition() < 0) {
            for (String document : DOCUMENTS) {
                extract(spanner, document, got);
                extract(reference, document, due);
            }
        }
        CHECK.same(text, got.toString(), due.toString());
    }

    private static void extract(DocumentSpanner spanner, String document, StringBuilder told) {
        spanner.clearDocument();
        for (char letter : document.toCharArray()) {
            spanner.appendLetter(letter);
        }
        int rows = spanner.extract(0);
        told.append(" rows ").append(rows);
        for (int cell = 0; cell < 3 * rows; cell++) {
            told.append(" ").append(spanner.start(0, cell / 3, cell % 3)).append("-").append(spanner.end(0, cell / 3, cell % 3));
        }
    }

    private static void extract(Reference reference, String document, StringBuilder told) {
        reference.clearDocument();
        for (char letter : document.toCharArray()) {
            reference.appendLetter(letter);
        }
        int rows = reference.extract(0);
        told.append(" rows ").append(rows);
        for (int cell = 0; cell < 3 * rows; cell++) {
            told.append(" ").append(reference.start(0, cell / 3, cell % 3)).append("-").append(reference.end(0, cell / 3, cell % 3));
        }
    }
}
