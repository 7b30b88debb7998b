/** Promise 10, extract, and with it the section 'Matching'. */
public final class ExtractTest {
    private static final Check CHECK = new Check("ExtractTest");

    public static void main(String[] args) {
        matches();
        repeats();
        captures();
        usesVariablesOnce();
        ordersRows();
        limit();
        faults();
        keepsStateWhenRefused();
        CHECK.end();
    }

    private static void table(String document, String formula, String due) {
        DocumentSpanner x = Spanner.with(document);
        int rows = Spanner.extract(x, formula, 0);
        CHECK.same("rows of " + formula + " on '" + document + "'", Spanner.rows(x, 0), due);
        CHECK.same("count of " + formula + " on '" + document + "'", rows, x.size(0));
    }

    private static void matches() {
        table("", "", "-");
        table("a", "", "none");
        table("a", "a", "-");
        table("a", "b", "none");
        table("a", ".", "-");
        table("", ".", "none");
        table("ab", "ab", "-");
        table("ab", "ba", "none");
        table("ab", "a", "none");
        table("b", "a|b", "-");
        table("a", "a|a|.", "-");
        table("z", "a|", "none");
        table("", "a|", "-");
        table("ab", "(a)(b)", "-");
        table("abcdefgh", "abcdefgh", "-");
    }

    private static void repeats() {
        table("", "a*", "-");
        table("aaa", "a*", "-");
        table("aab", "a*", "none");
        table("", "a+", "none");
        table("aaaaaaaa", "a+", "-");
        table("", "a?", "-");
        table("a", "a?", "-");
        table("aa", "a?", "none");
        table("ababab", "(ab)*", "-");
        table("ababa", "(ab)*", "none");
        table("aab", "(a|b)+", "-");
        table("aa", "(a*)*", "-");
        table("aa", "(a?)+", "-");
        table("", "(a?)+", "-");
        table("", "()+", "-");
        table("a", "()*a", "-");
    }

    private static void captures() {
        table("ab", "X{ab}", "X02");
        table("ab", "X{}ab", "X00");
        table("ab", "abX{}", "X22");
        table("ab", ".*X{.*}.*", "X00; X01; X02; X11; X12; X22");
        table("ab", "X{a}Y{b}", "X01 Y12");
        table("ab", "X{aY{b}}", "X02 Y12");
        for (String nested : new String[] {"X{Y{Z{", "X{Z{Y{", "Y{X{Z{", "Y{Z{X{", "Z{X{Y{", "Z{Y{X{"}) {
            table("ab", nested + "ab}}}", "X02 Y02 Z02");
            table("ab", "a" + nested + "}}}b", "X11 Y11 Z11");
        }
        table("ab", "X{a|ab}b?", "X01; X02");
        table("a", "X{a}|Y{a}", "Y01; X01");
        table("a", "X{a}|a", "-; X01");
        table("a", "X{a}?", "X01");
        table("a", "X{}?a", "-; X00");
        table("", "X{}?", "-; X00");
        table("", "X{}Y{}Z{}", "X00 Y00 Z00");
        table("", "Z{X{}}", "X00 Z00");
        table("aa", "(X{a}|Y{a})(Y{a}|Z{a})", "Y01 Z12; X01 Z12; X01 Y12");
        table("abc", "X{.*}Y{.*}", "X00 Y03; X01 Y13; X02 Y23; X03 Y33");
    }

    private static void usesVariablesOnce() {
        table("aa", "X{a}X{a}", "none");
        table("a", "X{X{a}}", "none");
        table("a", "X{a|Y{X{a}}}", "X01");
        table("aa", "X{a}+", "none");
        table("a", "X{a}+", "X01");
        table("", "X{a}*", "-");
        table("aa", "(X{a}|Y{a})*", "X01 Y12; X12 Y01");
        table("aa", "(X{a}|a)*", "-; X01; X12");
        table("", "(X{}|Y{})*", "-; Y00; X00; X00 Y00");
        table("", "(X{}|Y{})+", "Y00; X00; X00 Y00");
        table("", "(X{}|Y{}|Z{})+", "Z00; Y00; Y00 Z00; X00; X00 Z00; X00 Y00; X00 Y00 Z00");
        table("", "(X{}Y{}|Z{})+", "Z00; X00 Y00; X00 Y00 Z00");
        table("", "(X{}X{}|Y{})*", "-; Y00");
        table("a", "(X{}|Y{})*a(X{}|Y{})*", "-; Y00; Y11; X00; X00 Y00; X00 Y11; X11; X11 Y00; X11 Y11");
        table("a", "X{}aX{}|a", "-");
        table("a", "X{}?aX{}?", "-; X00; X11");
        table("", "X{}+X{}*", "X00");
    }

    private static void ordersRows() {
        table("abc", "(X{.}|Y{.}|Z{.}|.)(X{.}|Z{.})?.*",
                "-; Z01; Z12; Y01; Y01 Z12; X01; X01 Z12; X12; X12 Z01; X12 Y01");
        table("aa", "X{.*}(Y{a}|)(Z{}|)a*",
                "X00; X00 Z00; X00 Y01; X00 Y01 Z11; X01; X01 Z11; X01 Y12; X01 Y12 Z22; X02; X02 Z22");
    }

    private static void limit() {
        DocumentSpanner x = Spanner.with("aaaaaaaa");
        // 165 ways to end X, Y and Z one after the other, 28 for X and Y within 6 letters, 7 for X alone.
        String twoHundred = "X{.*}Y{.*}Z{.*}.*|X{.*}(Y{.*}|).*aa";
        CHECK.same("200 mappings", Spanner.extract(x, twoHundred, 1), 200);
        CHECK.same("first row", x.end(1, 0, 0), 0);
        CHECK.same("last row", x.start(1, 199, 1), 8);
        Spanner.formula(x, twoHundred + "|.*");
        CHECK.raises(IllegalStateException.class, "201 mappings", () -> x.extract(1));
        CHECK.same("the slot keeps its table", x.size(1), 200);
        Spanner.formula(x, ".*X{.*}.*Y{.*}.*Z{.*}.*");
        CHECK.raises(IllegalStateException.class, "3003 mappings", () -> x.extract(1));
        Spanner.formula(x, "(((a*)*a*)*a*)*X{a*}(a*a*|a*)*");
        CHECK.same("many ways to the same mappings", x.extract(1), 45);
    }

    private static void faults() {
        DocumentSpanner x = new DocumentSpanner();
        for (int wrong : new int[] {-1, 6, Integer.MAX_VALUE, Integer.MIN_VALUE}) {
            CHECK.raises(IndexOutOfBoundsException.class, "extract(" + wrong + ")", () -> x.extract(wrong));
        }
        CHECK.raises(IllegalStateException.class, "no formula", () -> x.extract(5));
    }

    private static void keepsStateWhenRefused() {
        DocumentSpanner x = Spanner.with("aaaaaaaa");
        Spanner.extract(x, "X{a*}.*", 3);
        x.openCursor(3);
        x.advance(4);
        Spanner.formula(x, "(X{.*}|Y{.*}|Z{.*}|.)*");
        CHECK.raises(IllegalStateException.class, "too many", () -> x.extract(3));
        CHECK.same("table stays", x.size(3), 9);
        CHECK.same("cursor stays", x.cursorRow(), 4);
        CHECK.same("formula stays", x.formulaVariables(), 7);
        Spanner.formula(x, "X{a*}.*");
        CHECK.same("the search starts anew", x.extract(4), 9);
    }
}
