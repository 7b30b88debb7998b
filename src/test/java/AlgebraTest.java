/** Promises 16 to 25: union, join, minus, antijoin, project, exchange, the selections, contained. */
public final class AlgebraTest {
    private static final Check CHECK = new Check("AlgebraTest");
    private static final int[] NO_SLOTS = {-1, 6, Integer.MAX_VALUE, Integer.MIN_VALUE};
    private static final int[] NO_VARIABLES = {-1, 3, Integer.MAX_VALUE, Integer.MIN_VALUE};

    private interface Binary {
        long answer(int a, int b, int to);
    }

    public static void main(String[] args) {
        unions();
        joins();
        limits();
        fullTables();
        differences();
        antijoins();
        projections();
        exchanges();
        equalities();
        lengths();
        relations();
        containment();
        binaryFaults();
        unaryFaults();
        storing();
        CHECK.end();
    }

    /** Slot 0 gets the table of the first formula, slot 1 that of the second. */
    private static DocumentSpanner two(String document, String first, String second) {
        DocumentSpanner x = Spanner.with(document);
        Spanner.extract(x, first, 0);
        Spanner.extract(x, second, 1);
        return x;
    }

    private static void rows(DocumentSpanner x, String what, int answer, int slot, String due) {
        CHECK.same(what, Spanner.rows(x, slot), due);
        CHECK.same(what + ": answer", answer, x.size(slot));
    }

    private static void unions() {
        DocumentSpanner x = two("ab", "X{a}b|X{ab}", "X{ab}|Y{a}b|ab");
        rows(x, "union", x.union(0, 1, 2), 2, "-; Y01; X01; X02");
        rows(x, "union, the other way", x.union(1, 0, 3), 3, "-; Y01; X01; X02");
        rows(x, "union with itself", x.union(0, 0, 4), 4, "X01; X02");
        rows(x, "union into the first", x.union(0, 1, 0), 0, "-; Y01; X01; X02");
        rows(x, "union into the second", x.union(4, 1, 1), 1, "-; Y01; X01; X02");
        Spanner.extract(x, "c", 5);
        rows(x, "union with no rows", x.union(5, 4, 5), 5, "X01; X02");
    }

    private static void joins() {
        DocumentSpanner x = two("ab", "X{.}Y{.*}|X{.*}", "Y{a*}b|.Y{.}|Z{.}.");
        rows(x, "first", x.size(0), 0, "X01 Y12; X02");
        rows(x, "second", x.size(1), 1, "Z01; Y01; Y12");
        rows(x, "join", x.join(0, 1, 2), 2, "X01 Y12; X01 Y12 Z01; X02 Z01; X02 Y01; X02 Y12");
        rows(x, "join, the other way", x.join(1, 0, 3), 3, "X01 Y12; X01 Y12 Z01; X02 Z01; X02 Y01; X02 Y12");
        rows(x, "join into the first", x.join(0, 1, 0), 0, "X01 Y12; X01 Y12 Z01; X02 Z01; X02 Y01; X02 Y12");
        Spanner.extract(x, ".*", 4);
        rows(x, "join with the empty mapping", x.join(1, 4, 5), 5, "Z01; Y01; Y12");
        rows(x, "join with itself", x.join(1, 1, 5), 5, "Z01; Y01; Y01 Z01; Y12; Y12 Z01");
        Spanner.extract(x, "c", 4);
        rows(x, "join with no rows", x.join(1, 4, 1), 1, "none");
        x = two("ab", "X{.}Z{.}", "Y{.}Z{.}|Z{.}.");
        rows(x, "join needs equal spans", x.join(0, 1, 2), 2, "X01 Y01 Z12");
    }

    private static void limits() {
        DocumentSpanner x = two("aaaaaaaa", "X{.*}Y{.*}Z{.*}.*", "X{.*}(Y{.*}|).*aa");
        CHECK.same("165 and 35 rows", x.union(0, 1, 2), 200);
        Spanner.extract(x, ".*", 3);
        x.openCursor(3);
        CHECK.raises(IllegalStateException.class, "201 rows", () -> x.union(2, 3, 3));
        CHECK.same("the slot keeps its table", x.size(3), 1);
        CHECK.same("the cursor stays", x.cursorRow(), 0);
        CHECK.same("200 rows with themselves", x.union(2, 2, 4), 200);
        Spanner.extract(x, ".*X{.*}.*", 0);
        CHECK.same("25 spans of 2 to 6 letters", x.selectLength(0, 0, 2, 6, 0), 25);
        CHECK.same("8 spans of one letter", Spanner.extract(x, ".*Y{.}.*", 1), 8);
        CHECK.same("25 times 8", x.join(0, 1, 2), 200);
        Spanner.extract(x, "X{}Y{.}.*", 3);
        x.union(0, 3, 3);
        CHECK.raises(IllegalStateException.class, "and one more", () -> x.join(3, 1, 2));
        CHECK.same("the slot keeps its table", x.size(2), 200);
        CHECK.same("a join counts each mapping once", x.join(2, 2, 4), 200);
    }

    private static void fullTables() {
        DocumentSpanner x = two("aaaaaaaa", "X{.*}Y{.*}Z{.*}.*|X{.*}(Y{.*}|).*aa", "X{.*}.*");
        CHECK.same("rows", x.size(0), 200);
        CHECK.same("domain", x.domain(0), 7);
        CHECK.same("minus", x.minus(0, 0, 2), 0);
        CHECK.same("minus others", x.minus(0, 1, 2), 193);
        CHECK.same("antijoin", x.antijoin(0, 0, 2), 0);
        CHECK.same("antijoin with others", x.antijoin(0, 1, 2), 0);
        CHECK.same("project", x.project(0, 7, 2), 200);
        CHECK.same("exchange", x.exchange(0, 0, 2, 2), 200);
        CHECK.same("selectEqual", x.selectEqual(0, 0, 0, 2), 200);
        CHECK.same("selectLength", x.selectLength(0, 0, 0, 8, 2), 200);
        CHECK.same("selectRelation", x.selectRelation(0, 0, 0, 1, 2), 200);
        CHECK.yes("contained", x.contained(0, 2) && x.contained(2, 0));
        CHECK.yes("the X spans overlap", !x.disjoint(2));
        x.openCursor(2);
        CHECK.same("skipTo", x.skipTo(1), -1);
        Spanner.extract(x, "aX{.}.*", 1);
        CHECK.no("a row behind the last one", x.contained(1, 0));
        Spanner.extract(x, ".*", 1);
        CHECK.no("a row before the first one", x.contained(1, 0));
    }

    private static void differences() {
        DocumentSpanner x = two("ab", "X{.*}.*|ab|Y{ab}", "X{a}b|Y{ab}|Z{ab}");
        rows(x, "minus", x.minus(0, 1, 2), 2, "-; X00; X02");
        rows(x, "minus, the other way", x.minus(1, 0, 3), 3, "Z02");
        rows(x, "minus itself", x.minus(0, 0, 4), 4, "none");
        rows(x, "minus no rows", x.minus(1, 4, 5), 5, "Z02; Y02; X01");
        rows(x, "minus into the second", x.minus(0, 1, 1), 1, "-; X00; X02");
        rows(x, "minus into the first", x.minus(0, 1, 0), 0, "Y02; X01");
    }

    private static void antijoins() {
        DocumentSpanner x = two("ab", "X{.*}.*|Y{a}b", "X{a}b|X{ab}");
        rows(x, "antijoin", x.antijoin(0, 1, 2), 2, "X00");
        rows(x, "antijoin, the other way", x.antijoin(1, 0, 3), 3, "none");
        Spanner.extract(x, "ab", 1);
        rows(x, "the empty mapping is compatible with all", x.antijoin(0, 1, 3), 3, "none");
        Spanner.extract(x, "c", 1);
        rows(x, "antijoin with no rows", x.antijoin(0, 1, 1), 1, "Y01; X00; X01; X02");
        rows(x, "antijoin with itself", x.antijoin(0, 0, 0), 0, "none");
        x = two("ab", "X{.}Y{.}|X{.}Z{.}", "X{.}.Y{}|Z{}..");
        rows(x, "one unlike span is enough", x.antijoin(0, 1, 0), 0, "none");
        x = two("ab", "X{.}Y{.}|X{.}Z{.}", "X{.}.Y{}Z{}");
        rows(x, "in each of them", x.antijoin(0, 1, 0), 0, "X01 Z12; X01 Y12");
    }

    private static void projections() {
        DocumentSpanner x = two("ab", "X{.}Y{.*}|X{.}Y{}.|Z{ab}|ab", "c");
        rows(x, "table", x.size(0), 0, "-; Z02; X01 Y11; X01 Y12");
        rows(x, "to nothing", x.project(0, 0, 1), 1, "-");
        rows(x, "to X", x.project(0, 1, 1), 1, "-; X01");
        rows(x, "to Y", x.project(0, 2, 1), 1, "-; Y11; Y12");
        rows(x, "to X and Y", x.project(0, 3, 1), 1, "-; X01 Y11; X01 Y12");
        rows(x, "to Z", x.project(0, 4, 1), 1, "-; Z02");
        rows(x, "to X and Z", x.project(0, 5, 1), 1, "-; Z02; X01");
        rows(x, "to Y and Z", x.project(0, 6, 1), 1, "-; Z02; Y11; Y12");
        rows(x, "to all", x.project(0, 7, 0), 0, "-; Z02; X01 Y11; X01 Y12");
        Spanner.extract(x, "c", 2);
        rows(x, "without rows", x.project(2, 0, 2), 2, "none");
        DocumentSpanner y = x;
        for (int wrong : new int[] {-1, 8, Integer.MAX_VALUE, Integer.MIN_VALUE}) {
            CHECK.raises(IllegalArgumentException.class, "project: variables", () -> y.project(0, wrong, 1));
            CHECK.raises(IllegalArgumentException.class, "before the table", () -> y.project(5, wrong, 1));
            CHECK.raises(IndexOutOfBoundsException.class, "behind the slots", () -> y.project(0, wrong, 6));
            CHECK.raises(IndexOutOfBoundsException.class, "behind the slots", () -> y.project(6, wrong, 0));
        }
    }

    private static void exchanges() {
        DocumentSpanner x = two("ab", "X{.}Y{.}|X{..}|Y{}..Z{}", "c");
        rows(x, "table", x.size(0), 0, "Y00 Z22; X01 Y12; X02");
        rows(x, "X and Y", x.exchange(0, 0, 1, 1), 1, "Y02; X00 Z22; X12 Y01");
        rows(x, "Y and X", x.exchange(0, 1, 0, 1), 1, "Y02; X00 Z22; X12 Y01");
        rows(x, "X and Z", x.exchange(0, 0, 2, 1), 1, "Z02; Y12 Z01; X22 Y00");
        rows(x, "Z and Y", x.exchange(0, 2, 1, 1), 1, "Y22 Z00; X01 Z12; X02");
        rows(x, "X and X", x.exchange(0, 0, 0, 1), 1, "Y00 Z22; X01 Y12; X02");
        rows(x, "Z and Z into the same", x.exchange(0, 2, 2, 0), 0, "Y00 Z22; X01 Y12; X02");
        rows(x, "into the same", x.exchange(0, 1, 0, 0), 0, "Y02; X00 Z22; X12 Y01");
    }

    private static void equalities() {
        DocumentSpanner x = two("aba", ".*X{.+}.*Y{.+}.*|X{a}.*|X{}.*Y{}", "c");
        rows(x, "X and Y", x.selectEqual(0, 0, 1, 1), 1, "X00 Y33; X01 Y23");
        rows(x, "Y and X", x.selectEqual(0, 1, 0, 1), 1, "X00 Y33; X01 Y23");
        rows(x, "X and X", x.selectEqual(0, 0, 0, 1), 1,
                "X00 Y33; X01; X01 Y12; X01 Y13; X01 Y23; X02 Y23; X12 Y23");
        rows(x, "X and Z", x.selectEqual(0, 0, 2, 1), 1, "none");
        x = two("abab", "X{..}(Y{..}|Z{..})|X{.}.?Y{.}.*", "c");
        rows(x, "two letters", x.selectEqual(0, 0, 1, 0), 0, "X01 Y23; X02 Y24");
        x = two("abba", "X{..}Y{..}|X{.}.*Y{.}", "c");
        rows(x, "unlike in order", x.selectEqual(0, 0, 1, 0), 0, "X01 Y34");
    }

    private static void lengths() {
        DocumentSpanner x = two("abc", "X{.*}.*|Y{..}.", "c");
        rows(x, "1 to 2", x.selectLength(0, 0, 1, 2, 1), 1, "X01; X02");
        rows(x, "0 to 0", x.selectLength(0, 0, 0, 0, 1), 1, "X00");
        rows(x, "3 to 3", x.selectLength(0, 0, 3, 3, 1), 1, "X03");
        rows(x, "all", x.selectLength(0, 0, Integer.MIN_VALUE, Integer.MAX_VALUE, 1), 1, "X00; X01; X02; X03");
        rows(x, "all of Y", x.selectLength(0, 1, Integer.MIN_VALUE, Integer.MAX_VALUE, 1), 1, "Y02");
        rows(x, "an empty range", x.selectLength(0, 0, 2, 1, 1), 1, "none");
        rows(x, "below", x.selectLength(0, 0, -5, -1, 1), 1, "none");
        rows(x, "above", x.selectLength(0, 0, 4, Integer.MAX_VALUE, 1), 1, "none");
        rows(x, "undefined is no length", x.selectLength(0, 2, -9, 9, 1), 1, "none");
        rows(x, "into the same", x.selectLength(0, 0, 2, 9, 0), 0, "X02; X03");
    }

    private static void relations() {
        DocumentSpanner x = two("ab", "X{.}Y{.}|X{.Y{.}}|X{Y{.}.}|Y{X{.}.}", "X{..}|X{}Y{}..|Y{.}X{.}");
        x.union(0, 1, 0);
        rows(x, "table", x.size(0), 0, "X00 Y00; X01 Y02; X01 Y12; X02; X02 Y01; X02 Y12; X12 Y01");
        rows(x, "before", x.selectRelation(0, 0, 1, 0, 1), 1, "X00 Y00; X01 Y12");
        rows(x, "before, turned", x.selectRelation(0, 1, 0, 0, 1), 1, "X00 Y00; X12 Y01");
        rows(x, "inside", x.selectRelation(0, 0, 1, 1, 1), 1, "X00 Y00; X01 Y02");
        rows(x, "inside, turned", x.selectRelation(0, 1, 0, 1, 1), 1, "X00 Y00; X02 Y01; X02 Y12");
        rows(x, "equal starts", x.selectRelation(0, 0, 1, 2, 1), 1, "X00 Y00; X01 Y02; X02 Y01");
        rows(x, "equal ends", x.selectRelation(0, 0, 1, 3, 1), 1, "X00 Y00; X02 Y12");
        rows(x, "before itself if empty", x.selectRelation(0, 0, 0, 0, 1), 1, "X00 Y00");
        rows(x, "inside itself", x.selectRelation(0, 1, 1, 1, 1), 1,
                "X00 Y00; X01 Y02; X01 Y12; X02 Y01; X02 Y12; X12 Y01");
        rows(x, "undefined variables", x.selectRelation(0, 2, 2, 3, 1), 1, "none");
        rows(x, "into the same", x.selectRelation(0, 0, 1, 3, 0), 0, "X00 Y00; X02 Y12");
        DocumentSpanner y = x;
        for (int wrong : new int[] {-1, 4, Integer.MAX_VALUE, Integer.MIN_VALUE}) {
            CHECK.raises(IllegalArgumentException.class, "relation", () -> y.selectRelation(0, 0, 1, wrong, 1));
            CHECK.raises(IllegalArgumentException.class, "before the table", () -> y.selectRelation(5, 0, 1, wrong, 1));
            CHECK.raises(IndexOutOfBoundsException.class, "behind the slots", () -> y.selectRelation(0, 0, 1, wrong, 6));
            CHECK.raises(IndexOutOfBoundsException.class, "behind the slots", () -> y.selectRelation(6, 0, 1, wrong, 0));
            CHECK.raises(IndexOutOfBoundsException.class, "behind the variables", () -> y.selectRelation(0, 3, 0, wrong, 0));
            CHECK.raises(IndexOutOfBoundsException.class, "behind the variables", () -> y.selectRelation(0, 0, 3, wrong, 0));
        }
    }

    private static void containment() {
        DocumentSpanner x = two("ab", "X{a}b|X{ab}", "X{a}b|X{ab}|ab");
        CHECK.yes("contained", x.contained(0, 1));
        CHECK.no("not contained", x.contained(1, 0));
        CHECK.yes("in itself", x.contained(0, 0));
        Spanner.extract(x, "c", 2);
        CHECK.yes("no rows in some", x.contained(2, 0));
        CHECK.yes("no rows in none", x.contained(2, 2));
        CHECK.no("some in no rows", x.contained(0, 2));
        Spanner.extract(x, "Y{a}b|X{ab}", 3);
        CHECK.no("overlapping", x.contained(0, 3));
        CHECK.raises(IllegalStateException.class, "no first table", () -> x.contained(5, 0) ? 1 : 0);
        CHECK.raises(IllegalStateException.class, "no second table", () -> x.contained(0, 5) ? 1 : 0);
        for (int wrong : NO_SLOTS) {
            CHECK.raises(IndexOutOfBoundsException.class, "first slot", () -> x.contained(wrong, 5) ? 1 : 0);
            CHECK.raises(IndexOutOfBoundsException.class, "second slot", () -> x.contained(5, wrong) ? 1 : 0);
        }
    }

    private static void binaryFaults() {
        DocumentSpanner x = two("ab", "X{a}b", "ab");
        String[] names = {"union", "join", "minus", "antijoin"};
        Binary[] calls = {x::union, x::join, x::minus, x::antijoin};
        for (int i = 0; i < calls.length; i++) {
            Binary call = calls[i];
            CHECK.raises(IllegalStateException.class, names[i] + ": no first table", () -> call.answer(5, 0, 2));
            CHECK.raises(IllegalStateException.class, names[i] + ": no second table", () -> call.answer(0, 5, 2));
            for (int wrong : NO_SLOTS) {
                CHECK.raises(IndexOutOfBoundsException.class, names[i] + ": a", () -> call.answer(wrong, 5, 2));
                CHECK.raises(IndexOutOfBoundsException.class, names[i] + ": b", () -> call.answer(5, wrong, 2));
                CHECK.raises(IndexOutOfBoundsException.class, names[i] + ": to", () -> call.answer(5, 5, wrong));
            }
            CHECK.raises(IllegalStateException.class, names[i] + ": nothing was stored", () -> x.size(2));
        }
    }

    private static void unaryFaults() {
        DocumentSpanner x = two("ab", "X{a}b", "ab");
        CHECK.raises(IllegalStateException.class, "project", () -> x.project(5, 7, 2));
        CHECK.raises(IllegalStateException.class, "exchange", () -> x.exchange(5, 0, 1, 2));
        CHECK.raises(IllegalStateException.class, "selectEqual", () -> x.selectEqual(5, 0, 1, 2));
        CHECK.raises(IllegalStateException.class, "selectLength", () -> x.selectLength(5, 0, 0, 1, 2));
        CHECK.raises(IllegalStateException.class, "selectRelation", () -> x.selectRelation(5, 0, 1, 0, 2));
        Class<IndexOutOfBoundsException> index = IndexOutOfBoundsException.class;
        for (int wrong : NO_SLOTS) {
            CHECK.raises(index, "project a", () -> x.project(wrong, 7, 2));
            CHECK.raises(index, "project to", () -> x.project(5, 7, wrong));
            CHECK.raises(index, "exchange a", () -> x.exchange(wrong, 0, 1, 2));
            CHECK.raises(index, "exchange to", () -> x.exchange(5, 0, 1, wrong));
            CHECK.raises(index, "selectEqual a", () -> x.selectEqual(wrong, 0, 1, 2));
            CHECK.raises(index, "selectEqual to", () -> x.selectEqual(5, 0, 1, wrong));
            CHECK.raises(index, "selectLength a", () -> x.selectLength(wrong, 0, 0, 1, 2));
            CHECK.raises(index, "selectLength to", () -> x.selectLength(5, 0, 0, 1, wrong));
            CHECK.raises(index, "selectRelation a", () -> x.selectRelation(wrong, 0, 1, 0, 2));
            CHECK.raises(index, "selectRelation to", () -> x.selectRelation(5, 0, 1, 0, wrong));
        }
        for (int wrong : NO_VARIABLES) {
            CHECK.raises(index, "exchange u", () -> x.exchange(5, wrong, 1, 2));
            CHECK.raises(index, "exchange v", () -> x.exchange(5, 0, wrong, 2));
            CHECK.raises(index, "selectEqual u", () -> x.selectEqual(5, wrong, 1, 2));
            CHECK.raises(index, "selectEqual v", () -> x.selectEqual(5, 0, wrong, 2));
            CHECK.raises(index, "selectLength u", () -> x.selectLength(5, wrong, 0, 1, 2));
            CHECK.raises(index, "selectRelation u", () -> x.selectRelation(5, wrong, 1, 0, 2));
            CHECK.raises(index, "selectRelation v", () -> x.selectRelation(5, 0, wrong, 0, 2));
        }
        CHECK.raises(IllegalStateException.class, "nothing was stored", () -> x.size(2));
        CHECK.same("the tables stay", Spanner.rows(x, 0), "X01");
    }

    /** Every method that stores replaces the slot's table, leaves the others, and closes a cursor there. */
    private static void storing() {
        for (int method = 0; method < 9; method++) {
            DocumentSpanner x = two("ab", "X{a}b", "X{a}b");
            x.extract(2);
            x.openCursor(1);
            store(x, method, 2);
            CHECK.same("a cursor elsewhere stays, method " + method, x.cursorRow(), 0);
            x.openCursor(2);
            store(x, method, 2);
            CHECK.raises(IllegalStateException.class, "a cursor there is closed, method " + method, x::cursorRow);
            x.openCursor(0);
            store(x, method, 0);
            CHECK.raises(IllegalStateException.class, "even for an equal table, method " + method, x::cursorRow);
            CHECK.same("the other table stays", Spanner.rows(x, 1), "X01");
        }
    }

    private static int store(DocumentSpanner x, int method, int to) {
        switch (method) {
            case 0:
                return x.union(0, 1, to);
            case 1:
                return x.join(0, 1, to);
            case 2:
                return x.minus(0, 1, to);
            case 3:
                return x.antijoin(0, 1, to);
            case 4:
                return x.project(0, 7, to);
            case 5:
                return x.exchange(0, 0, 0, to);
            case 6:
                return x.selectEqual(0, 0, 0, to);
            case 7:
                return x.selectLength(0, 0, 0, 9, to);
            default:
                return x.selectRelation(0, 0, 0, 1, to);
        }
    }
}
