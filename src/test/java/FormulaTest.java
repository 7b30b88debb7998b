/** Promises 5 to 9: appendCharacter, parse, errorPosition, formulaVariables, formulaKind. */
public final class FormulaTest {
    private static final Check CHECK = new Check("FormulaTest");

    public static void main(String[] args) {
        appendsCharacters();
        parses();
        keepsFormulaAfterFault();
        errorPositions();
        limitsOpenCharacters();
        variables();
        kinds();
        CHECK.end();
    }

    private static void appendsCharacters() {
        DocumentSpanner x = new DocumentSpanner();
        for (int wrong : new int[] {32, 127, 0, -1, 33 + 256, Integer.MAX_VALUE, Integer.MIN_VALUE}) {
            CHECK.raises(IllegalArgumentException.class, "appendCharacter(" + wrong + ")", () -> x.appendCharacter(wrong));
        }
        CHECK.same("least", x.appendCharacter(33), 1);
        CHECK.same("greatest", x.appendCharacter(126), 2);
        for (int i = 3; i <= 40; i++) {
            CHECK.same("count", x.appendCharacter('a'), i);
        }
        CHECK.raises(IllegalStateException.class, "a character too many", () -> x.appendCharacter('a'));
        CHECK.raises(IllegalArgumentException.class, "a wrong character too many", () -> x.appendCharacter(32));
        CHECK.raises(IllegalArgumentException.class, "no formula", x::parse);
        CHECK.same("the fault is the first character", x.errorPosition(), 0);
        CHECK.same("the buffer is empty again", x.appendCharacter('b'), 1);
    }

    private static void parses() {
        DocumentSpanner x = Spanner.with("aaaaaaaa");
        String full = "X{a*}Y{a*}Z{a*}(a|b|.)*(a?)+((()))|||||b";
        CHECK.same("40 characters", Spanner.formula(x, full), 40);
        CHECK.same("the buffer is emptied", x.parse(), 0);
        CHECK.same("an empty buffer matches no letters", x.extract(0), 0);
        x.clearDocument();
        CHECK.same("it matches the empty document", x.extract(0), 1);
        for (String good : new String[] {"a", "z", ".", "|", "()", "(|)", "X{}", "Y{|a}*", "(a)?", "a|", "|a", "((a)*b)+", "Z{X{a}?}"}) {
            CHECK.same(good, Spanner.formula(x, good), good.length());
            CHECK.same("no error", x.errorPosition(), -1);
        }
    }

    private static void keepsFormulaAfterFault() {
        DocumentSpanner x = Spanner.with("a");
        Spanner.formula(x, "X{a}");
        Spanner.type(x, "Y{a");
        CHECK.raises(IllegalArgumentException.class, "an open brace", x::parse);
        CHECK.same("the former formula stays", x.formulaVariables(), 1);
        CHECK.same("and still matches", x.extract(0), 1);
        CHECK.same("the buffer was emptied", x.appendCharacter('a'), 1);
        CHECK.same("its error position stays until the next parse", x.errorPosition(), 3);
        CHECK.same("which succeeds", x.parse(), 1);
        CHECK.same("and has none", x.errorPosition(), -1);
        Spanner.type(x, "*");
        CHECK.raises(IllegalArgumentException.class, "a star alone", x::parse);
        CHECK.same("its position", x.errorPosition(), 0);
        Spanner.type(x, "a");
        CHECK.same("appending changes nothing", x.errorPosition(), 0);
    }

    private static void errorAt(String text, int due) {
        DocumentSpanner x = new DocumentSpanner();
        Spanner.type(x, text);
        CHECK.raises(IllegalArgumentException.class, "parse " + text, x::parse);
        CHECK.same("errorPosition of " + text, x.errorPosition(), due);
        CHECK.raises(IllegalStateException.class, "no formula came of " + text, x::formulaKind);
    }

    private static void errorPositions() {
        errorAt("a**", 2);
        errorAt("a*?", 2);
        errorAt("+a", 0);
        errorAt("a|*", 2);
        errorAt("(*a)", 1);
        errorAt("X{?}", 2);
        errorAt("a)", 1);
        errorAt("a}", 1);
        errorAt(")", 0);
        errorAt("(a}", 2);
        errorAt("X{a)", 3);
        errorAt("(X{a)}", 4);
        errorAt("(a", 2);
        errorAt("X{a", 3);
        errorAt("X", 1);
        errorAt("abX", 3);
        errorAt("(", 1);
        errorAt("X{", 2);
        errorAt("Xa", 1);
        errorAt("XY{a}", 1);
        errorAt("X*", 1);
        errorAt("X(a)", 1);
        errorAt("X|a", 1);
        errorAt("{a}", 0);
        errorAt("a{b}", 1);
        errorAt("A", 0);
        errorAt("aW{b}", 1);
        errorAt("a[b", 1);
        errorAt("ab1", 2);
        errorAt("ab,c", 2);
        errorAt("`", 0);
        errorAt("(((", 3);
        errorAt("a()b))", 4);
    }

    private static void limitsOpenCharacters() {
        DocumentSpanner x = new DocumentSpanner();
        CHECK.same("six open", Spanner.formula(x, "((((((a))))))"), 13);
        CHECK.same("six open, mixed", Spanner.formula(x, "(X{(Y{(Z{a})})})"), 16);
        CHECK.same("six open, twice", Spanner.formula(x, "((((((a))))))((((((a))))))"), 26);
        CHECK.same("a sixth one again and again", Spanner.formula(x, "(((((()()X{}))))).()"), 20);
        errorAt("(((((((a)))))))", 6);
        errorAt("((((((X{a}))))))", 7);
        errorAt("((((((X", 7);
        errorAt("((((((Xa", 7);
        errorAt("X{X{X{X{X{X{X{", 13);
        errorAt("((((((a)(())", 9);
    }

    private static void variables() {
        DocumentSpanner x = new DocumentSpanner();
        String[] texts = {"a", "X{}", "Y{}", "Z{}", "X{Y{}}", "(Z{}|X{a})*", "X{Y{Z{}}}", "X{X{}}", "", "a|b|Y{c}?"};
        int[] due = {0, 1, 2, 4, 3, 5, 7, 1, 0, 2};
        for (int i = 0; i < texts.length; i++) {
            Spanner.formula(x, texts[i]);
            CHECK.same("variables of " + texts[i], x.formulaVariables(), due[i]);
        }
    }

    private static void kind(String text, int due) {
        DocumentSpanner x = new DocumentSpanner();
        Spanner.formula(x, text);
        CHECK.same("kind of '" + text + "'", x.formulaKind(), due);
    }

    private static void kinds() {
        for (String functional : new String[] {"", "a*", "(a|b)?", "X{a}", "X{a}Y{b}", "X{a}|X{b}", "(X{a}|bX{})Y{}", "X{Y{a}|Y{b}}",
            "X{a*}.*Y{(a|b)+}", "(X{a})", "Y{}X{}|X{}Y{}", "|", "()|a"}) {
            kind(functional, 2);
        }
        for (String sequential : new String[] {"X{a}?", "(X{a})?", "X{a}|b", "X{a}|", "X{a}|Y{a}", "X{Y{a}|b}", "(X{a}|b)Y{}",
            "X{Y{}?}", "X{}Y{}|X{}", "(aX{}|)", "X{}|X{}|Y{}"}) {
            kind(sequential, 1);
        }
        for (String other : new String[] {"X{a}X{b}", "X{a}*", "X{a}+", "X{X{a}}", "(X{a}|b)*", "X{a}(b|X{c})", "X{Y{X{}}}",
            "a|X{}bX{}", "((Y{})?)+", "X{}Y{}(Z{}|X{})", "(X{}X{})?", "X{(Y{}Y{})}", "(aX{}*)?"}) {
            kind(other, 0);
        }
    }
}
