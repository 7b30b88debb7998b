/** Short ways to feed a DocumentSpanner with texts and to show its tables. */
final class Spanner {
    static final int[] NO_SLOTS = {-1, 6, 256, Integer.MAX_VALUE, Integer.MIN_VALUE};
    static final int[] NO_VARIABLES = {-1, 3, 256, Integer.MAX_VALUE, Integer.MIN_VALUE};

    static final String EIGHT = "aaaaaaaa";
    /**
     * A full table on EIGHT, 200 rows: 165 ways to end X, Y and Z one after the other, 28 for X and Y
     * within the first 6 letters, 7 for X alone. Row 0 is X00, row 199 is X08 Y88 Z88.
     */
    static final String FULL = "X{.*}Y{.*}Z{.*}.*|X{.*}(Y{.*}|).*aa";
    /** FULL and the empty mapping: 201 rows. */
    static final String OVERFULL = FULL + "|.*";

    static DocumentSpanner with(String document) {
        DocumentSpanner x = new DocumentSpanner();
        document(x, document);
        return x;
    }

    static void document(DocumentSpanner x, String letters) {
        x.clearDocument();
        for (char letter : letters.toCharArray()) {
            x.appendLetter(letter);
        }
    }

    static void type(DocumentSpanner x, String characters) {
        for (char character : characters.toCharArray()) {
            x.appendCharacter(character);
        }
    }

    static int formula(DocumentSpanner x, String text) {
        type(x, text);
        return x.parse();
    }

    static int extract(DocumentSpanner x, String text, int slot) {
        formula(x, text);
        return x.extract(slot);
    }

    /** The rows of a slot, such as "X01 Z22; Y03"; a row without variables is "-", no row "none". */
    static String rows(DocumentSpanner x, int slot) {
        StringBuilder text = new StringBuilder();
        for (int row = 0; row < x.size(slot); row++) {
            text.append(row == 0 ? "" : "; ").append(row(x, slot, row));
        }
        return x.size(slot) == 0 ? "none" : text.toString();
    }

    private static String row(DocumentSpanner x, int slot, int row) {
        StringBuilder text = new StringBuilder();
        for (int variable = 0; variable < 3; variable++) {
            int start = x.start(slot, row, variable);
            int end = x.end(slot, row, variable);
            if (start != -1 || end != -1) {
                text.append(text.length() == 0 ? "" : " ").append("XYZ".charAt(variable)).append(start).append(end);
            }
        }
        return text.length() == 0 ? "-" : text.toString();
    }

    private Spanner() {
    }
}
