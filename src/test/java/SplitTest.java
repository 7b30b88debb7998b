/** Promises 26 to 28: disjoint, extractSplit, splitCorrect. */
public final class SplitTest {
    private static final Check CHECK = new Check("SplitTest");
    private static final int[] NO_SLOTS = {-1, 6, Integer.MAX_VALUE, Integer.MIN_VALUE};

    public static void main(String[] args) {
        disjointness();
        splits();
        splitLimit();
        splitFaults();
        correctness();
        correctnessWithoutLimit();
        CHECK.end();
    }

    private static void disjointness() {
        DocumentSpanner x = Spanner.with("abcd");
        String[] yes = {"abc", "abcd", "X{ab}cd", "X{ab}cd|abX{cd}", "X{}abcd|X{ab}cd", "X{}abcd|aX{}bcd|aX{bc}d|abcX{}d",
            "X{ab}cdY{}|X{ab}Y{}cd", "Y{ab}cd|aY{bcd}", "X{ab}cd|Y{abc}d", "X{ab}cd|abX{}cd", "abX{}cd|abX{cd}"};
        String[] no = {"X{ab}cd|aX{bc}d", "X{a}bcd|X{ab}cd", "X{ab}cd|aX{b}cd", "X{ab}cd|aX{}bcd", "X{abcd}|abX{}cd",
            "aX{bc}d|abcX{d}|X{abcd}", "X{ab}cd|abX{cd}|abcX{d}", "abX{cd}|X{abc}d|abcd", ".*X{.*}.*"};
        for (String formula : yes) {
            Spanner.extract(x, formula, 0);
            CHECK.yes("disjoint: " + formula, x.disjoint(0));
        }
        for (String formula : no) {
            Spanner.extract(x, formula, 0);
            CHECK.no("disjoint: " + formula, x.disjoint(0));
        }
        CHECK.raises(IllegalStateException.class, "no table", () -> x.disjoint(1) ? 1 : 0);
        for (int wrong : NO_SLOTS) {
            CHECK.raises(IndexOutOfBoundsException.class, "disjoint(" + wrong + ")", () -> x.disjoint(wrong) ? 1 : 0);
        }
    }

    private static void split(String document, String splitter, String formula, String due) {
        DocumentSpanner x = Spanner.with(document);
        Spanner.extract(x, splitter, 3);
        Spanner.formula(x, formula);
        String what = formula + " on the chunks of " + splitter + " on " + document;
        CHECK.same(what + ": answer", x.extractSplit(3, 1), x.size(1));
        CHECK.same(what, Spanner.rows(x, 1), due);
        CHECK.same(what + ": into the same", x.extractSplit(3, 3), x.size(1));
        CHECK.same(what + ": into the same", Spanner.rows(x, 3), due);
    }

    private static void splits() {
        split("abab", "X{..}..|..X{..}", "Y{a}b", "Y01; Y23");
        split("abab", "X{..}..|..X{..}", "Y{a}.*Z{b}", "Y01 Z12; Y23 Z34");
        split("abab", "X{..}..|..X{..}", ".*X{.}", "X12; X34");
        split("abab", ".*X{.}.*", "Y{}.Z{}", "Y00 Z11; Y11 Z22; Y22 Z33; Y33 Z44");
        split("abab", "X{..}..|..X{..}", "ab", "-");
        split("abab", "X{..}..|..X{..}", "abab", "none");
        split("abab", "..X{}..", "Y{}", "Y22");
        split("abab", "..X{}..", "Y{.*}", "Y22");
        split("abab", "..X{}..", "Y{.+}", "none");
        split("abab", "Y{..}..", "Y{.*}", "none");
        split("abab", "c", "", "none");
        split("abab", "Y{..}..|X{.}...", "Y{.*}", "Y01");
        split("abab", "X{..}Y{.}.|X{..}.Y{.}", "Y{.*}", "Y02");
        split("abab", "X{...}.|.X{...}", ".*Y{.}.*", "Y01; Y12; Y23; Y34");
        split("abcdefgh", ".X{......}.", "X{.}.*Z{.}", "X12 Z67");
        split("abcdefgh", ".......X{.}", "X{h}", "X78");
        split("", "X{}", "Y{}", "Y00");
    }

    private static void splitLimit() {
        DocumentSpanner x = Spanner.with("aaaaaaaa");
        Spanner.extract(x, "X{a*}", 0);
        String twoHundred = "X{.*}Y{.*}Z{.*}.*|X{.*}(Y{.*}|).*aa";
        Spanner.formula(x, twoHundred);
        CHECK.same("200 rows", x.extractSplit(0, 1), 200);
        Spanner.formula(x, "Y{.*}");
        CHECK.same("9 chunks from 200 rows", x.extractSplit(1, 2), 9);
        CHECK.same("each once", Spanner.rows(x, 2), "Y00; Y01; Y02; Y03; Y04; Y05; Y06; Y07; Y08");
        Spanner.formula(x, twoHundred + "|.*");
        x.openCursor(1);
        CHECK.raises(IllegalStateException.class, "201 rows", () -> x.extractSplit(0, 1));
        CHECK.same("the slot keeps its table", x.size(1), 200);
        CHECK.same("the cursor stays", x.cursorRow(), 0);
        Spanner.extract(x, "X{....}....|....X{....}", 0);
        Spanner.formula(x, ".*X{.*}.*Y{.*}.*");
        CHECK.same("70 rows in each half, one of them in both", x.extractSplit(0, 1), 139);
        CHECK.raises(IllegalStateException.class, "495 rows on the whole", () -> x.extract(2));
    }

    private static void splitFaults() {
        DocumentSpanner x = Spanner.with("ab");
        CHECK.raises(IllegalStateException.class, "no table", () -> x.extractSplit(0, 1));
        CHECK.raises(IllegalStateException.class, "no table", () -> x.splitCorrect(0) ? 1 : 0);
        x.save();
        Spanner.extract(x, "X{a}b", 0);
        CHECK.raises(IllegalStateException.class, "still no table", () -> x.extractSplit(1, 0));
        for (int wrong : NO_SLOTS) {
            CHECK.raises(IndexOutOfBoundsException.class, "splitter", () -> x.extractSplit(wrong, 1));
            CHECK.raises(IndexOutOfBoundsException.class, "to", () -> x.extractSplit(5, wrong));
            CHECK.raises(IndexOutOfBoundsException.class, "splitter", () -> x.splitCorrect(wrong) ? 1 : 0);
        }
        x.openCursor(0);
        x.extractSplit(0, 2);
        CHECK.same("a cursor elsewhere stays", x.cursorRow(), 0);
        x.extractSplit(0, 0);
        CHECK.raises(IllegalStateException.class, "a cursor there is closed", x::cursorRow);
    }

    private static void correct(String document, String splitter, String formula, boolean due) {
        DocumentSpanner x = Spanner.with(document);
        Spanner.extract(x, splitter, 3);
        Spanner.formula(x, formula);
        CHECK.same("splitCorrect: " + formula + " on the chunks of " + splitter + " on " + document,
                x.splitCorrect(3) ? 1 : 0, due ? 1 : 0);
        CHECK.yes("the splitter stays", x.size(3) >= 0);
    }

    private static void correctness() {
        correct("abab", "X{..}..|..X{..}", ".*Y{.}.*", true);
        correct("abab", "X{..}..|..X{..}", ".*Y{ab}.*", true);
        correct("abab", "X{..}..|..X{..}", ".*Y{ba}.*", false);
        correct("abab", "X{..}..", ".*Y{.}.*", false);
        correct("abab", "X{.*}", ".*Y{.}.*", true);
        correct("abab", "X{..}..|..X{..}", "Y{.*}", false);
        correct("abab", "X{..}..|..X{..}", "Y{..}", false);
        correct("abab", "X{..}..|..X{..}", "Y{ba}", true);
        correct("abab", "c", "Y{ba}", true);
        correct("abab", "c", ".*", false);
        correct("abab", "Y{.*}", "ba", true);
        correct("abab", "Y{.*}", "Y{.*}", false);
        correct("", "X{}", "X{.*}", true);
        for (String variable : new String[] {"X", "Y", "Z"}) {
            correct("aa", "X{.}.", ".*" + variable + "{.}", false);
            correct("aa", ".X{.}", ".*" + variable + "{.}", true);
        }
    }

    private static void correctnessWithoutLimit() {
        DocumentSpanner x = Spanner.with("aaaaaaaa");
        Spanner.extract(x, "X{.*}", 0);
        Spanner.formula(x, ".*X{.*}.*Y{.*}.*Z{.*}.*");
        CHECK.yes("3003 mappings and the same ones", x.splitCorrect(0));
        Spanner.extract(x, "X{.*}.", 0);
        Spanner.formula(x, ".*X{.*}.*Y{.*}.*Z{.*}.*");
        CHECK.no("3003 mappings and fewer", x.splitCorrect(0));
        Spanner.extract(x, "X{.......}.|.X{.......}", 0);
        Spanner.formula(x, ".*X{.*}.*Y{.}.*");
        CHECK.no("the longest are missing", x.splitCorrect(0));
        Spanner.formula(x, "(X{.*}|Y{.*}|Z{.*}|.)*");
        CHECK.no("very many", x.splitCorrect(0));
        Spanner.extract(x, ".*X{.*}.*", 0);
        Spanner.formula(x, "(X{.*}|Y{.*}|Z{.*}|.)*");
        CHECK.yes("very many, from all chunks", x.splitCorrect(0));
        CHECK.same("the splitter stays", x.size(0), 45);
        Spanner.formula(x, "X{a*}a*");
        CHECK.same("later results are not touched", x.extract(1), 9);
        Spanner.extract(x, "X{.*}", 0);
        Spanner.formula(x, "X{a}a*");
        CHECK.yes("nor later comparisons", x.splitCorrect(0));
    }
}
