/** The examples of the document's section 'Description', call by call. */
public final class ExamplesTest {
    private static final Check CHECK = new Check("ExamplesTest");

    public static void main(String[] args) {
        findsLetter();
        capturesFirstLetterAndRest();
        capturesEveryPrefix();
        refusesSecondRepeater();
        parsesOptionalCapture();
        matchesEmptyDocument();
        CHECK.end();
    }

    private static void append(DocumentSpanner x, String letters, String characters) {
        for (int i = 0; i < letters.length(); i++) {
            CHECK.same("appendLetter", x.appendLetter(letters.charAt(i)), i + 1);
        }
        for (int i = 0; i < characters.length(); i++) {
            CHECK.same("appendCharacter", x.appendCharacter(characters.charAt(i)), i + 1);
        }
    }

    private static void findsLetter() {
        DocumentSpanner x = new DocumentSpanner();
        append(x, "aba", ".*X{a}.*");
        CHECK.same("parse", x.parse(), 8);
        CHECK.same("extract", x.extract(0), 2);
        CHECK.same("size", x.size(0), 2);
        CHECK.same("start", x.start(0, 1, 0), 2);
        CHECK.same("end", x.end(0, 1, 0), 3);
    }

    private static void capturesFirstLetterAndRest() {
        DocumentSpanner x = new DocumentSpanner();
        append(x, "ab", "X{.}Y{.*}");
        CHECK.same("parse", x.parse(), 9);
        CHECK.same("extract", x.extract(0), 1);
        CHECK.same("size", x.size(0), 1);
    }

    private static void capturesEveryPrefix() {
        DocumentSpanner x = new DocumentSpanner();
        append(x, "aa", "X{a*}.*");
        CHECK.same("parse", x.parse(), 7);
        CHECK.same("extract", x.extract(0), 3);
        CHECK.same("start", x.start(0, 2, 0), 0);
        CHECK.same("end", x.end(0, 2, 0), 2);
    }

    private static void refusesSecondRepeater() {
        DocumentSpanner x = new DocumentSpanner();
        append(x, "", "a*+");
        CHECK.raises(IllegalArgumentException.class, "parse", x::parse);
        CHECK.same("errorPosition", x.errorPosition(), 2);
    }

    private static void parsesOptionalCapture() {
        DocumentSpanner x = new DocumentSpanner();
        append(x, "a", "(X{a})?.");
        CHECK.same("parse", x.parse(), 8);
    }

    private static void matchesEmptyDocument() {
        DocumentSpanner x = new DocumentSpanner();
        CHECK.raises(IllegalArgumentException.class, "appendLetter", () -> x.appendLetter(65));
        CHECK.raises(IllegalStateException.class, "extract", () -> x.extract(0));
        CHECK.same("parse", x.parse(), 0);
        CHECK.same("extract", x.extract(0), 1);
        CHECK.same("size", x.size(0), 1);
        CHECK.same("start", x.start(0, 0, 0), -1);
    }
}
