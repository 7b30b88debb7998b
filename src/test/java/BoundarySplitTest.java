/** The boundary sentences of promises 26 to 28: disjoint, extractSplit, splitCorrect. */
public final class BoundarySplitTest {
    private static final Check CHECK = new Check("BoundarySplitTest");
    private static final Sentences DOC = new Sentences(CHECK, 26, 28);
    /** On a chunk of n letters this has (n + 1)(n + 4) / 2 rows, all of which begin at the chunk's start. */
    private static final String FROM_START = "X{.*}Y{.*}.*|X{.*}.*";

    public static void main(String[] args) {
        disjoint();
        extractSplit();
        splitCorrect();
        DOC.end();
    }

    private static String chunk(int start, int end) {
        return ".".repeat(start) + "X{" + ".".repeat(end - start) + "}.*";
    }

    private static DocumentSpanner chunks(String... formulas) {
        DocumentSpanner x = Spanner.with("abcdefgh");
        Spanner.extract(x, "a", 0);
        for (String formula : formulas) {
            Spanner.extract(x, formula, 1);
            x.union(0, 1, 0);
        }
        x.clear(1);
        return x;
    }

    private static boolean areDisjoint(String... formulas) {
        return chunks(formulas).disjoint(0);
    }

    private static void disjoint() {
        DOC.promise(26);
        DOC.says("Returns whether a table splits the document into disjoint chunks.");
        CHECK.yes("no rows", areDisjoint());
        CHECK.yes("one chunk", areDisjoint("X{.*}"));
        CHECK.yes("one empty chunk", areDisjoint("X{}.*"));
        CHECK.yes("every letter", areDisjoint(".*X{.}.*"));
        CHECK.yes("every letter and every empty span", areDisjoint(".*X{.?}.*"));
        CHECK.no("all spans", areDisjoint(".*X{.*}.*"));
        CHECK.no("every two letters", areDisjoint(".*X{..}.*"));
        DocumentSpanner empty = new DocumentSpanner();
        Spanner.extract(empty, "X{}", 0);
        CHECK.yes("on the empty document", empty.disjoint(0));
        DocumentSpanner full = Spanner.with(Spanner.EIGHT);
        Spanner.extract(full, Spanner.FULL, 0);
        CHECK.no("a full table", full.disjoint(0));
        DOC.says("The chunks of a table are the spans that its mappings assign to X; mappings that do not define X are ignored, "
                + "and a span that several mappings assign is one chunk.");
        CHECK.yes("no X at all", areDisjoint("Y{.*}.*", "Z{.*}.*", ".*"));
        CHECK.yes("one X, other Y", areDisjoint("X{..}Y{.*}.*", "Z{X{..}.*}"));
        CHECK.yes("other Y and Z overlap", areDisjoint("X{..}.*", "Y{...}.*", ".Z{...}.*", "..X{.*}"));
        full.project(0, 6, 1);
        CHECK.yes("a full table without X", full.disjoint(1));
        DOC.says("Two spans are disjoint if one of them ends at or before the start of the other one.");
        pairsOfSpans();
        DOC.says("Returns true if every two different chunks are disjoint.");
        CHECK.no("the first and the last overlap", areDisjoint("X{.*}", "..X{}.*", ".......X{.}"));
        CHECK.no("only the last two overlap", areDisjoint("X{.}.*", ".X{.}.*", ".....X{...}", "......X{}.."));
        CHECK.yes("three that touch", areDisjoint("X{..}.*", "..X{..}.*", "....X{.*}"));
        DOC.says("Throws IndexOutOfBoundsException if slot is not a slot");
        for (int wrong : Spanner.NO_SLOTS) {
            CHECK.raises(Check.INDEX, "slot " + wrong, () -> full.disjoint(wrong) ? 1 : 0);
        }
        DOC.says("Throws IllegalStateException if there is no table in the slot");
        CHECK.raises(Check.STATE, "beside a table", () -> full.disjoint(2) ? 1 : 0);
        CHECK.raises(Check.STATE, "of a new object", () -> new DocumentSpanner().disjoint(0) ? 1 : 0);
    }

    private static void pairsOfSpans() {
        for (int i = 0; i <= 8; i++) {
            for (int j = i; j <= 8; j++) {
                for (int k = i; k <= 8; k++) {
                    for (int l = k; l <= 8; l++) {
                        boolean same = i == k && j == l;
                        CHECK.same("[" + i + ", " + j + ") and [" + k + ", " + l + ")",
                                areDisjoint(chunk(i, j), chunk(k, l)) ? 1 : 0, same || j <= k || l <= i ? 1 : 0);
                    }
                }
            }
        }
    }

    private static void split(DocumentSpanner x, String formula, String due) {
        Spanner.formula(x, formula);
        x.extractSplit(0, 5);
        CHECK.same(formula, Spanner.rows(x, 5), due);
    }

    private static void extractSplit() {
        DOC.promise(27);
        DOC.says("Stores the split result of the current formula: the union, over all chunks of a table as described at disjoint, "
                + "of the results of the formula on the chunk.");
        split(chunks(), ".*", "none");
        split(chunks("Y{.*}", ".*"), ".*", "none");
        split(chunks("X{}.*"), ".*", "-");
        split(chunks("X{.*}"), "X{.*}", "X08");
        split(chunks("X{.}.*", ".......X{.}"), "Y{.}", "Y01; Y78");
        split(chunks("X{..}.*", ".X{..}.*"), ".*Y{.}.*", "Y01; Y12; Y23");
        split(chunks("X{..}Y{.*}", "X{..}.*"), "Y{..}", "Y02");
        split(chunks(".*X{.?}.*"), "Z{}", "Z00; Z11; Z22; Z33; Z44; Z55; Z66; Z77; Z88");
        DOC.says("For this, the letters that the chunk covers are taken as a document of their own; then the start of the chunk "
                + "is added to all starts and ends of the mappings.");
        split(chunks(".......X{.}"), "X{}Y{h}Z{}", "X77 Y78 Z88");
        split(chunks(".......X{.}"), ".*X{g}.*|gh", "none");
        split(chunks("X{.}.*"), "aX{b}|ab", "none");
        split(chunks(".*X{}"), "X{}Y{}Z{}", "X88 Y88 Z88");
        split(chunks(".X{......}."), "X{b}.*Z{g}", "X12 Z67");
        split(chunks("...X{.*}"), "X{d}?Y{def}.*|d.*", "-; Y36");
        DOC.says("to: the slot for the result, possibly the same");
        for (int to = 0; to < 6; to++) {
            DocumentSpanner x = chunks("X{.}.*", ".......X{.}");
            Spanner.formula(x, "Y{.}");
            x.extractSplit(0, to);
            CHECK.same("result in " + to, Spanner.rows(x, to), "Y01; Y78");
            CHECK.same("splitter", Spanner.rows(x, 0), to == 0 ? "Y01; Y78" : "X01; X78");
        }
        DOC.says("Returns the number of rows of the result.");
        DocumentSpanner all = chunks(".*X{.*}.*");
        Spanner.formula(all, "i");
        CHECK.same("none", all.extractSplit(0, 1), 0);
        Spanner.formula(all, ".*");
        CHECK.same("one, from 45 chunks", all.extractSplit(0, 1), 1);
        DocumentSpanner most = chunks(".*X{.*}");
        Spanner.extract(most, "....X{.*}|......X{.*}", 1);
        most.minus(0, 1, 0);
        Spanner.extract(most, "....X{...}.|......X{.}.", 1);
        most.union(0, 1, 0);
        Spanner.formula(most, FROM_START);
        CHECK.same("200, from 9 chunks", most.extractSplit(0, 1), 200);
        DOC.says("Throws IndexOutOfBoundsException if splitter or to is not a slot");
        for (int wrong : Spanner.NO_SLOTS) {
            CHECK.raises(Check.INDEX, "splitter " + wrong, () -> most.extractSplit(wrong, 0));
            CHECK.raises(Check.INDEX, "to " + wrong, () -> most.extractSplit(0, wrong));
            CHECK.raises(Check.INDEX, "no table, to " + wrong, () -> most.extractSplit(5, wrong));
            CHECK.raises(Check.INDEX, "no formula, splitter " + wrong, () -> new DocumentSpanner().extractSplit(wrong, 0));
            CHECK.raises(Check.INDEX, "no formula, to " + wrong, () -> new DocumentSpanner().extractSplit(0, wrong));
        }
        refusedSplits();
    }

    private static void refusedSplits() {
        DOC.says("Throws IllegalStateException if there is no table in splitter, there is no current formula, "
                + "or the result has more than 200 mappings");
        CHECK.raises(Check.STATE, "neither table nor formula", () -> new DocumentSpanner().extractSplit(0, 0));
        DocumentSpanner more = chunks(".*X{.*}");
        Spanner.extract(more, "......X{.*}", 1);
        more.minus(0, 1, 0);
        more.openCursor(0);
        Spanner.formula(more, FROM_START);
        CHECK.raises(Check.STATE, "no table", () -> more.extractSplit(5, 0));
        CHECK.raises(Check.STATE, "201, from 8 chunks", () -> more.extractSplit(0, 0));
        CHECK.raises(Check.STATE, "201, into an empty slot", () -> more.extractSplit(0, 2));
        CHECK.same("the splitter stays", more.size(0), 8);
        CHECK.same("the cursor stays", more.cursorRow(), 0);
        CHECK.raises(Check.STATE, "nothing was stored", () -> more.size(2));
        DocumentSpanner one = Spanner.with(Spanner.EIGHT);
        Spanner.extract(one, "X{.*}", 0);
        Spanner.formula(one, Spanner.OVERFULL);
        CHECK.raises(Check.STATE, "201, from one chunk", () -> one.extractSplit(0, 0));
        Spanner.formula(one, Spanner.FULL);
        CHECK.same("200, from one chunk", one.extractSplit(0, 0), 200);
    }

    private static void correct(boolean due, DocumentSpanner x, String formula) {
        Spanner.formula(x, formula);
        CHECK.same(formula, x.splitCorrect(0) ? 1 : 0, due ? 1 : 0);
    }

    private static void splitCorrect() {
        DOC.promise(28);
        DOC.says("Returns whether the split result of the current formula is equal to its result on the document.");
        correct(true, chunks(), "i");
        correct(false, chunks(), ".*");
        correct(true, chunks("Y{.*}"), "i");
        correct(false, chunks("X{}.*"), ".*Y{}.*");
        correct(true, chunks(".*X{.?}.*"), ".*Y{}.*");
        correct(true, chunks("X{.*}"), ".*Y{.*}.*");
        correct(false, chunks("X{.......}."), ".*Y{.*}.*");
        correct(true, chunks(".*X{.*}.*"), ".*Y{.*}.*");
        correct(false, chunks(".*X{.*}.*"), "Y{.*}");
        DocumentSpanner empty = new DocumentSpanner();
        Spanner.extract(empty, "X{}", 0);
        correct(true, empty, "Y{}Z{}|.*");
        DocumentSpanner state = chunks("X{.}.*", ".......X{.}");
        Spanner.extract(state, "Y{.*}.*", 1);
        state.openCursor(1);
        state.advance(3);
        CHECK.no("not correct", state.splitCorrect(0));
        CHECK.same("the splitter stays", Spanner.rows(state, 0), "X01; X78");
        CHECK.same("the other table stays", state.size(1), 9);
        CHECK.same("the cursor stays", state.cursorRow(), 3);
        DOC.says("The limit of 200 mappings does not apply here.");
        DocumentSpanner x = Spanner.with(Spanner.EIGHT);
        Spanner.extract(x, "X{.*}", 0);
        correct(true, x, Spanner.FULL);
        correct(true, x, Spanner.OVERFULL);
        CHECK.raises(Check.STATE, "it does apply to extract", () -> x.extract(1));
        CHECK.raises(Check.STATE, "and to extractSplit", () -> x.extractSplit(0, 1));
        correct(true, x, "(X{.*}|Y{.*}|Z{.*}|.)*");
        correct(true, chunks(".*X{.*}.*"), "(X{.*}|Y{.*}|Z{.*}|.)*");
        correct(false, chunks(".*X{.*}."), "(X{.*}|Y{.*}|Z{.*}|.)*");
        DOC.says("Returns true if both results are equal.");
        // The empty chunk adds what the last sequence matches, one mapping that the document does not have.
        correct(false, chunks("X{.*}", "X{}.*"), ".+X{.*}Y{.*}Z{.*}.*|Z{}");
        correct(true, chunks("X{.*}", "X{}.*"), ".+X{.*}Y{.*}Z{.*}.*");
        correct(true, chunks("X{.*}", "X{}.*"), "X{.*}Y{.*}Z{.*}.*");
        correct(false, chunks("X{.*}", "X{}.*"), ".+X{.*}Y{.*}Z{.*}.*|");
        correct(false, chunks("X{.......}."), "X{.*}Y{.*}Z{.*}.*");
        // The first and the last mappings in the order, each the only one that the split result lacks.
        correct(false, chunks(), ".*Z{}");
        correct(false, chunks(), "X{}Y{}Z{}.*");
        correct(false, chunks(), ".*X{}Y{}");
        correct(false, chunks(), ".*X{}Y{}Z{}");
        DOC.says("Throws IndexOutOfBoundsException if splitter is not a slot");
        for (int wrong : Spanner.NO_SLOTS) {
            CHECK.raises(Check.INDEX, "splitter " + wrong, () -> x.splitCorrect(wrong) ? 1 : 0);
            CHECK.raises(Check.INDEX, "no formula, splitter " + wrong, () -> new DocumentSpanner().splitCorrect(wrong) ? 1 : 0);
        }
        DOC.says("Throws IllegalStateException if there is no table in splitter, or there is no current formula");
        CHECK.raises(Check.STATE, "no table", () -> x.splitCorrect(5) ? 1 : 0);
        CHECK.raises(Check.STATE, "neither table nor formula", () -> new DocumentSpanner().splitCorrect(0) ? 1 : 0);
        x.clear(0);
        CHECK.raises(Check.STATE, "no table any more", () -> x.splitCorrect(0) ? 1 : 0);
    }
}
