/** The boundary sentences of the description, before the promises. */
public final class BoundaryDescriptionTest {
    private static final Check CHECK = new Check("BoundaryDescriptionTest");
    private static final Sentences DOC = new Sentences(CHECK, Sentences.DESCRIPTION, Sentences.DESCRIPTION);
    private static final int MAX = Integer.MAX_VALUE;
    private static final int MIN = Integer.MIN_VALUE;
    private static final String ALL_SPANS = ".*X{.*}.*";

    public static void main(String[] args) {
        calls();
        exceptions();
        document();
        mappings();
        formulas();
        matching();
        copies();
        variables();
        kinds();
        tables();
        cursor();
        scores();
        DOC.end();
    }

    private static void table(String document, String formula, String due) {
        DocumentSpanner x = Spanner.with(document);
        Spanner.extract(x, formula, 0);
        CHECK.same(formula + " on '" + document + "'", Spanner.rows(x, 0), due);
    }

    private static void calls() {
        DOC.setAside("An evaluator for document spanners");
        DOC.setAside("The class parses formulas");
        DOC.setAside("It is not thread-safe.");
        DOC.says("An object is used for at most 512 calls after it has been made; what later calls answer is free.");
        DocumentSpanner x = new DocumentSpanner();
        Spanner.type(x, ".*X{.}.*");
        CHECK.same("parse", x.parse(), 8);
        // 9 calls so far; 29 rounds of 17 make 502.
        for (int round = 0; round < 29; round++) {
            CHECK.same("the former length", x.clearDocument(), round == 0 ? 0 : 8);
            for (int length = 1; length <= 8; length++) {
                CHECK.same("length", x.appendLetter('a'), length);
                CHECK.same("rows", x.extract(5), length);
            }
        }
        for (int call = 503; call <= 511; call++) {
            CHECK.same("tables", x.save(), 1);
        }
        CHECK.same("the 512th call", x.size(5), 8);
    }

    private static void exceptions() {
        DOC.says("A method that throws an exception leaves the state unchanged, unless its description says otherwise.");
        DocumentSpanner x = Spanner.with(Spanner.EIGHT);
        Spanner.extract(x, Spanner.FULL, 0);
        x.openCursor(0);
        x.advance(9);
        Spanner.formula(x, Spanner.OVERFULL);
        Spanner.type(x, "a".repeat(40));
        refused(x);
        CHECK.same("the document", x.letter(7), 'a');
        CHECK.same("the table", x.size(0), 200);
        CHECK.same("the cursor", x.cursorRow(), 9);
        CHECK.same("the weight", x.setWeight(0, 1), 1);
        CHECK.same("no other table", x.save(), 1);
        CHECK.same("the buffer", x.parse(), 40);
        DOC.says("If several exceptions are possible, the one listed first in the description is thrown, unless the order is described.");
        DocumentSpanner y = Spanner.with(Spanner.EIGHT);
        Spanner.type(y, "a".repeat(40));
        CHECK.raises(Check.ARGUMENT, "a wrong ninth letter", () -> y.appendLetter('A'));
        CHECK.raises(Check.ARGUMENT, "a wrong 41st character", () -> y.appendCharacter(' '));
        CHECK.raises(Check.INDEX, "no slot and no formula", () -> y.extract(6));
        CHECK.raises(Check.INDEX, "no slot, wrong variables, no table", () -> y.project(0, 8, 6));
        CHECK.raises(Check.ARGUMENT, "wrong variables, no table", () -> y.project(0, 8, 5));
        CHECK.raises(Check.INDEX, "no variable, no relation, no table", () -> y.selectRelation(0, 0, 3, 4, 5));
        CHECK.raises(Check.ARGUMENT, "no relation, no table", () -> y.selectRelation(0, 0, 2, 4, 5));
        CHECK.raises(Check.INDEX, "no slot, no table, no formula", () -> y.extractSplit(0, -1));
        CHECK.raises(Check.ARGUMENT, "negative and closed", () -> y.advance(-1));
        CHECK.raises(Check.STATE, "described: the table before the row", () -> y.start(0, -1, 3));
        CHECK.raises(Check.STATE, "described: the table before the row", () -> y.score(0, -1));
    }

    private static void refused(DocumentSpanner x) {
        CHECK.raises(Check.STATE, "a ninth letter", () -> x.appendLetter('b'));
        CHECK.raises(Check.ARGUMENT, "a wrong letter", () -> x.appendLetter('B'));
        CHECK.raises(Check.STATE, "a 41st character", () -> x.appendCharacter('b'));
        CHECK.raises(Check.STATE, "201 mappings", () -> x.extract(0));
        CHECK.raises(Check.STATE, "201 mappings elsewhere", () -> x.extract(1));
        CHECK.raises(Check.INDEX, "no slot", () -> x.clear(6));
        CHECK.raises(Check.STATE, "no table", () -> x.union(0, 1, 0));
        CHECK.raises(Check.INDEX, "no result slot", () -> x.minus(0, 0, 6));
        CHECK.raises(Check.ARGUMENT, "wrong variables", () -> x.project(0, 8, 0));
        CHECK.raises(Check.INDEX, "no variable", () -> x.exchange(0, 0, 3, 0));
        CHECK.raises(Check.ARGUMENT, "no relation", () -> x.selectRelation(0, 0, 1, 4, 0));
        CHECK.raises(Check.STATE, "no table", () -> x.extractSplit(1, 0));
        CHECK.raises(Check.STATE, "no table", () -> x.openCursor(1));
        CHECK.raises(Check.ARGUMENT, "back", () -> x.advance(-1));
        CHECK.raises(Check.INDEX, "no variable", () -> x.setWeight(3, 5));
        CHECK.raises(Check.STATE, "nothing saved", x::restore);
    }

    private static void document() {
        DOC.says("The document has at most 8 letters, a to z, and is empty at first.");
        CHECK.same("empty at first", new DocumentSpanner().clearDocument(), 0);
        DocumentSpanner full = Spanner.with("abcdwxyz");
        CHECK.raises(Check.STATE, "a ninth letter", () -> full.appendLetter('a'));
        CHECK.raises(Check.ARGUMENT, "before a", () -> Spanner.with("a").appendLetter('a' - 1));
        CHECK.raises(Check.ARGUMENT, "behind z", () -> Spanner.with("a").appendLetter('z' + 1));
        CHECK.same("eight letters", full.clearDocument(), 8);
        DOC.says("Its positions are numbered from 0 to its length.");
        for (int length = 0; length <= 8; length++) {
            DocumentSpanner x = Spanner.with(Spanner.EIGHT.substring(0, length));
            CHECK.same("positions", Spanner.extract(x, ".*X{}.*", 0), length + 1);
            CHECK.same("the first", x.start(0, 0, 0), 0);
            CHECK.same("the last", x.start(0, length, 0), length);
        }
        DOC.says("A span [i, j) consists of a start i and an end j with 0 <= i <= j <= length; it covers the letters i to j - 1, "
                + "and is empty if i = j.");
        for (int length = 0; length <= 8; length++) {
            DocumentSpanner x = Spanner.with("abcdefgh".substring(0, length));
            CHECK.same("spans", Spanner.extract(x, ALL_SPANS, 0), (length + 1) * (length + 2) / 2);
            CHECK.same("empty spans", x.selectLength(0, 0, 0, 0, 1), length + 1);
            CHECK.same("the last one ends at the end", x.end(0, x.size(0) - 1, 0), length);
        }
        table("abc", ".*X{b}.*|.*Y{bc}.*|Z{a}.*", "Z01; Y13; X12");
    }

    private static void mappings() {
        DOC.says("There are three variables: 0 X, 1 Y and 2 Z.");
        DocumentSpanner x = Spanner.with("abc");
        Spanner.extract(x, "X{a}Y{b}Z{c}|.*", 0);
        for (int variable = 0; variable < 3; variable++) {
            CHECK.same("start of " + variable, x.start(0, 1, variable), variable);
            CHECK.same("undefined", x.start(0, 0, variable), -1);
        }
        CHECK.raises(Check.INDEX, "a fourth one", () -> x.start(0, 1, 3));
        DOC.says("Two mappings are compatible if they assign the same span to every variable that both of them define.");
        CHECK.same("nothing in common", joined("X{a}bc", "aY{b}c"), "X01 Y12");
        CHECK.same("the empty mapping", joined("abc", "abc"), "-");
        CHECK.same("the same span", joined("X{a}bc", "X{a}Y{bc}"), "X01 Y13");
        CHECK.same("another end", joined("X{a}bc", "X{ab}c"), "none");
        CHECK.same("another start", joined("X{ab}c", "aX{b}c"), "none");
        CHECK.same("empty spans at the same place", joined("aX{}bc", "aX{}bc"), "X11");
        CHECK.same("empty spans at other places", joined("aX{}bc", "abX{}c"), "none");
        CHECK.same("one of two unlike", joined("X{a}Y{b}c", "X{a}Y{bc}"), "none");
        CHECK.same("Z unlike", joined("X{a}Y{b}Z{c}", "X{a}Y{b}Z{}c"), "none");
        DOC.says("The union of two compatible mappings defines the variables that at least one of them defines.");
        CHECK.same("all three", joined("X{a}Y{b}c", "aY{b}Z{c}"), "X01 Y12 Z23");
        CHECK.same("none", joined("abc", "..."), "-");
        CHECK.same("the same two", joined("X{a}bZ{c}", "X{a}bZ{c}"), "X01 Z23");
        DOC.says("Mappings are ordered by the span of X, then by that of Y, then by that of Z; an undefined variable comes before "
                + "all spans, and spans are ordered by their start and then by their end.");
        table("a", "(X{}|X{a}|)(Y{}|)a?", "-; Y00; X00; X00 Y00; X01; X01 Y11");
        table("", "X{}?Y{}?Z{}?", "-; Z00; Y00; Y00 Z00; X00; X00 Z00; X00 Y00; X00 Y00 Z00");
        table("ab", ALL_SPANS, "X00; X01; X02; X11; X12; X22");
        table("ab", ".*Z{.*}.*|", "Z00; Z01; Z02; Z11; Z12; Z22");
        table("ab", "X{a}Z{}.|X{a}Y{}.|X{}Z{.*}|Y{..}|X{a}.", "Y02; X00 Z02; X01; X01 Z11; X01 Y11");
    }

    private static String joined(String first, String second) {
        DocumentSpanner x = Spanner.with("abc");
        Spanner.extract(x, first, 0);
        Spanner.extract(x, second, 1);
        x.join(0, 1, 2);
        return Spanner.rows(x, 2);
    }

    private static void good(String text) {
        DocumentSpanner x = new DocumentSpanner();
        CHECK.same("'" + text + "'", Spanner.formula(x, text), text.length());
    }

    private static void bad(String text, int due) {
        DocumentSpanner x = new DocumentSpanner();
        Spanner.type(x, text);
        CHECK.raises(Check.ARGUMENT, "'" + text + "'", x::parse);
        CHECK.same("error position of '" + text + "'", x.errorPosition(), due);
    }

    private static void formulas() {
        DOC.says("braces without quotes mean zero or more repetitions and brackets mean zero or one");
        for (String text : new String[] {"", "|", "||", "|".repeat(40), "a".repeat(40), "()", "(|)", "()*", "X{}", "X{|}+", "a?", "a*|b+|.?"}) {
            good(text);
        }
        for (char letter = 'a'; letter <= 'z'; letter++) {
            good(String.valueOf(letter));
        }
        bad("a??", 2);
        bad("a*+", 2);
        bad("()**", 3);
        bad("X{}?*", 4);
        bad("|*", 1);
        bad("*", 0);
        bad("`", 0);
        bad("{", 0);
        bad("W{a}", 0);
        bad("[a]", 0);
        bad("X", 1);
        bad("X()", 1);
        DOC.says("There are no spaces.");
        DocumentSpanner space = new DocumentSpanner();
        CHECK.raises(Check.ARGUMENT, "a space", () -> space.appendCharacter(' '));
        CHECK.raises(Check.ARGUMENT, "a line's end", () -> space.appendCharacter('\n'));
        DOC.says("At most 6 of the characters \"(\" and \"{\" may be open at the same time; a seventh one is not allowed.");
        good("(((((())))))");
        good("X{X{X{X{X{X{}}}}}}");
        good("(X{(X{(X{})})})");
        good("((((((a)*)*)*)*)*)*");
        good("((((()(X{})()Y{}))))");
        good("(((((())))))(((((())))))(((((())))))");
        table("a", "((((((a))))))", "-");
        table("ab", "((((((a)+b)*)?)+)*)?", "-");
        table("a", "(((X{Y{Z{a}}})))", "X01 Y01 Z01");
        table("a", "X{Y{Z{(((a)))}}}", "X01 Y01 Z01");
        table("ab", "X{(Y{(Z{(a)})}b)}", "X02 Y01 Z01");
        table("ab", "X{(X{(X{(a)})})|Y{Z{(X{a}|Y{b}|(.))}.}}", "X02 Y02 Z01");
        bad("((((((()))))))", 6);
        bad("((((((a(", 7);
        bad("((((((a|b*(", 10);
        bad("((((((X{", 7);
        bad("X{X{X{X{X{X{(", 12);
        bad("X{X{X{X{X{X{Y{}}}}}}}", 13);
        bad("(((((()()((", 10);
        bad("(((((()((a)b))))))", 8);
    }

    private static void matching() {
        DOC.says("A letter matches a span of length 1 that covers this letter, with the empty mapping.");
        table("a", "a", "-");
        table("z", "z", "-");
        table("b", "a", "none");
        table("", "a", "none");
        table("aa", "a", "none");
        DOC.says("\".\" matches any span of length 1, with the empty mapping.");
        table("a", ".", "-");
        table("z", ".", "-");
        table("", ".", "none");
        table("aa", ".", "none");
        DOC.says("A sequence matches a span with a mapping if the span can be divided into consecutive spans");
        table("abcdefgh", "abcdefgh", "-");
        table("abcdefgh", "abcdefg", "none");
        table("abcdefgh", "abcdefghi", "none");
        table("ab", "X{a}Y{}Z{b}", "X01 Y11 Z12");
        table("ab", "X{.*}Y{.*}", "X00 Y02; X01 Y12; X02 Y22");
        table("aa", "X{a}X{a}", "none");
        table("", "X{}X{}", "none");
        table("", "X{}Y{}X{}|X{}Y{}", "X00 Y00");
        table("a", "X{}?aX{}?", "-; X00; X11");
        DOC.says("A sequence without items matches every empty span, with the empty mapping.");
        table("", "", "-");
        table("a", "", "none");
        table("a", "()a()", "-");
        table("ab", "aX{}b", "X11");
        table("ab", "abX{()|()}", "X22");
        DOC.says("A formula matches a span with a mapping if one of its sequences does.");
        table("a", "b|a", "-");
        table("a", "|a", "-");
        table("", "a|", "-");
        table("", "|||", "-");
        table("a", "b|c|", "none");
        table("a", "X{a}|Y{a}|a", "-; Y01; X01");
        DOC.says("The result of a formula on a document is the set of all mappings with which it matches the span of the whole document.");
        table("ab", "X{a}", "none");
        table("ab", "X{b}", "none");
        table("ab", "X{a}.|X{.}b|X{.}.", "X01");
        table(Spanner.EIGHT, "(a*a*)*X{(a|.|aa)*}(a?)*", "X00; X01; X02; X03; X04; X05; X06; X07; X08; X11; X12; X13; X14; X15; "
                + "X16; X17; X18; X22; X23; X24; X25; X26; X27; X28; X33; X34; X35; X36; X37; X38; X44; X45; X46; X47; X48; "
                + "X55; X56; X57; X58; X66; X67; X68; X77; X78; X88");
    }

    private static void copies() {
        DOC.says("An item with \"?\" matches what its atom matches, and every empty span with the empty mapping.");
        table("", "a?", "-");
        table("a", "a?", "-");
        table("aa", "a?", "none");
        table("", "X{}?", "-; X00");
        table("a", "X{a}?", "X01");
        table("a", "X{a}?Y{a}?", "Y01; X01");
        DOC.says("An item with \"*\" matches what a sequence of any number of copies of its atom matches, including none, and an item with "
                + "\"+\" what a sequence of at least one copy matches.");
        table("", "a*", "-");
        table("", "a+", "none");
        table("a", "a+", "-");
        table(Spanner.EIGHT, "a*", "-");
        table(Spanner.EIGHT, "a+", "-");
        table("aaaaaaab", "a*", "none");
        table("", "()*", "-");
        table("", "()+", "-");
        table("", "X{}*", "-; X00");
        table("", "X{}+", "X00");
        table("a", "X{a}*", "X01");
        table("aa", "X{a}*", "none");
        table("aa", "X{a}+", "none");
        table("aa", "(X{a}|a)+", "-; X01; X12");
        table("", "(X{}|Y{}|Z{})*", "-; Z00; Y00; Y00 Z00; X00; X00 Z00; X00 Y00; X00 Y00 Z00");
        table("aaa", "(X{a}|Y{a}|Z{a})*", "X01 Y12 Z23; X01 Y23 Z12; X12 Y01 Z23; X12 Y23 Z01; X23 Y01 Z12; X23 Y12 Z01");
        table("aaaa", "(X{a}|Y{a}|Z{a})*", "none");
    }

    private static void variables() {
        DOC.says("with some mapping that does not define the variable, and the mapping is this one, extended by the variable with this span.");
        table("a", "X{a}", "X01");
        table("", "X{}", "X00");
        table("a", "X{X{a}}", "none");
        table("a", "X{X{a}?}", "none");
        table("", "X{X{}?}", "X00");
        table("", "X{X{}*}", "X00");
        table("", "X{X{}+}", "none");
        table("a", "X{a|X{a}}", "X01");
        table("a", "X{Y{X{a}}}", "none");
        table("ab", "X{aY{b}}", "X02 Y12");
        table("ab", "Z{Y{X{ab}}}", "X02 Y02 Z02");
        table("ab", "X{X{}|Y{}|ab}", "X02");
    }

    private static void kind(String text, int due) {
        DocumentSpanner x = new DocumentSpanner();
        Spanner.formula(x, text);
        CHECK.same("kind of '" + text + "'", x.formulaKind(), due);
    }

    private static void kinds() {
        DOC.says("A part of a formula mentions a variable if it contains it.");
        kind("((((X{}))))X{}", 0);
        kind("Y{X{}}Z{X{}}", 0);
        kind("Y{X{}}Z{}", 2);
        DOC.says("A formula is sequential if, in every sequence of it and of its parts");
        kind("X{}X{}", 0);
        kind("X{}aX{}", 0);
        kind("X{}Y{}Z{}(X{}|)", 0);
        kind("(((X{}Y{}X{})))", 0);
        kind("Z{a|X{}X{}}", 0);
        kind("X{}|X{}X{}", 0);
        kind("X{}*", 0);
        kind("(a|X{})+", 0);
        kind("(a*b+)*X{}", 2);
        kind("(X{}?)*", 0);
        kind("X{X{}}", 0);
        kind("X{Y{Z{X{}}}}", 0);
        kind("X{Y{Z{}}}", 2);
        DOC.says("A formula is functional if it is sequential, no item with \"?\" mentions a variable");
        kind("", 2);
        kind("a?", 2);
        kind("a|", 2);
        kind("X{}?", 1);
        kind("(a|X{})?", 1);
        kind("X{}|a", 1);
        kind("X{}|", 1);
        kind("|X{}", 1);
        kind("X{}|Y{}", 1);
        kind("X{}Y{}|Y{}X{}", 2);
        kind("X{}|X{}|X{}|Y{}", 1);
        kind("X{Y{}|}", 1);
        kind("X{}(Y{}|Z{})", 1);
        kind("X{}Y{}Z{}|Z{Y{X{}}}", 2);
        kind("X{}?X{}", 0);
    }

    private static void tables() {
        DOC.says("There are 6 slots, numbered 0 to 5.");
        DocumentSpanner x = Spanner.with("a");
        Spanner.formula(x, "X{a}");
        for (int slot = 0; slot < 6; slot++) {
            CHECK.same("slot " + slot, x.extract(slot), 1);
        }
        CHECK.raises(Check.INDEX, "slot -1", () -> x.extract(-1));
        CHECK.raises(Check.INDEX, "slot 6", () -> x.extract(6));
        CHECK.same("six tables", x.save(), 6);
        DOC.says("A slot is empty, as all are at first, or holds a table, a set of at most 200 mappings.");
        CHECK.same("no table at first", new DocumentSpanner().save(), 0);
        DocumentSpanner full = Spanner.with(Spanner.EIGHT);
        CHECK.same("200", Spanner.extract(full, Spanner.FULL, 0), 200);
        Spanner.formula(full, Spanner.OVERFULL);
        CHECK.raises(Check.STATE, "201", () -> full.extract(0));
        CHECK.same("no mapping twice", full.union(0, 0, 0), 200);
        DOC.says("The rows of a table are its mappings, numbered from 0 in ascending order.");
        CHECK.same("row 0", full.end(0, 0, 0), 0);
        CHECK.same("row 199", full.end(0, 199, 0), 8);
        CHECK.raises(Check.INDEX, "row 200", () -> full.end(0, 200, 0));
        CHECK.raises(Check.INDEX, "row -1", () -> full.end(0, -1, 0));
        DOC.says("A method that stores a table in a slot replaces what the slot held.");
        full.minus(0, 0, 0);
        CHECK.same("no rows in place of 200", full.size(0), 0);
        CHECK.same("200 in place of none", Spanner.extract(full, Spanner.FULL, 0), 200);
        Spanner.extract(full, "X{.*}", 0);
        CHECK.same("one in place of 200", Spanner.rows(full, 0), "X08");
    }

    private static void cursor() {
        DOC.says("There is one cursor.");
        DocumentSpanner x = Spanner.with("ab");
        Spanner.extract(x, ".*X{.}.*", 0);
        Spanner.extract(x, ".*", 5);
        x.openCursor(0);
        x.advance(1);
        x.openCursor(5);
        CHECK.same("in the new slot", x.cursorRow(), 0);
        x.openCursor(0);
        CHECK.same("it keeps no place in the old one", x.cursorRow(), 0);
        DOC.says("It is closed at first; when it is open, it belongs to a slot and points to a row or behind the last row.");
        CHECK.raises(Check.STATE, "closed at first", () -> new DocumentSpanner().cursorRow());
        CHECK.same("the last row", x.advance(1), 1);
        CHECK.same("behind it", x.advance(1), -1);
        CHECK.same("and still open", x.cursorRow(), -1);
        DOC.says("It is closed when its slot gets another table or becomes empty, even if the new table is equal to the old one.");
        CHECK.same("an equal table", x.union(0, 0, 0), 2);
        CHECK.raises(Check.STATE, "closed", x::cursorRow);
        x.openCursor(0);
        x.minus(0, 5, 5);
        CHECK.same("another slot's table", x.cursorRow(), 0);
        x.clear(5);
        CHECK.same("another slot becomes empty", x.cursorRow(), 0);
        x.clear(0);
        CHECK.raises(Check.STATE, "its slot becomes empty", x::cursorRow);
        DocumentSpanner rowless = Spanner.with("ab");
        Spanner.extract(rowless, "c", 3);
        rowless.openCursor(3);
        rowless.extract(3);
        CHECK.raises(Check.STATE, "equal tables without rows", rowless::cursorRow);
        rowless.openCursor(3);
        rowless.appendLetter('c');
        CHECK.raises(Check.STATE, "a letter was appended", rowless::cursorRow);
    }

    private static int scoreOf(String formula, int x, int y, int z) {
        DocumentSpanner spanner = Spanner.with(Spanner.EIGHT);
        Spanner.extract(spanner, formula, 0);
        spanner.setWeight(0, x);
        spanner.setWeight(1, y);
        spanner.setWeight(2, z);
        return spanner.score(0, 0);
    }

    private static void scores() {
        DOC.says("Each variable has a weight, any int, 1 at first.");
        for (int variable = 0; variable < 3; variable++) {
            DocumentSpanner x = new DocumentSpanner();
            CHECK.same("1 at first", x.setWeight(variable, MAX), 1);
            CHECK.same("the greatest", x.setWeight(variable, MIN), MAX);
            CHECK.same("the least", x.setWeight(variable, 0), MIN);
            CHECK.same("zero", x.setWeight(variable, 0), 0);
        }
        DOC.says("The score of a mapping is computed with ints: starting with 0, for each variable that it defines, in the order X, Y, Z, "
                + "the product of the weight and the length of the span is added.");
        CHECK.same("no variable", scoreOf(".*", MAX, MAX, MAX), 0);
        CHECK.same("empty spans", scoreOf("X{}Y{}Z{}.*", MAX, MAX, MIN), 0);
        CHECK.same("X, Y and Z", scoreOf("X{.}Y{..}Z{...}.*", 100, 10, 1), 123);
        CHECK.same("X before Y", scoreOf("Y{.}X{.}.*", -1, MIN + 1, 0), MIN);
        CHECK.same("up and down", scoreOf("X{.}Y{.}Z{.}.*", MAX, MIN, MAX), MAX - 1);
        DOC.says("An ArithmeticException is thrown if a product or a sum overflows.");
        CHECK.raises(Check.ARITHMETIC, "a product", () -> scoreOf("X{..}.*", MAX, 0, 0));
        CHECK.raises(Check.ARITHMETIC, "a product that would wrap to 0", () -> scoreOf("X{..}.*", MIN, 0, 0));
        CHECK.raises(Check.ARITHMETIC, "a product of Z", () -> scoreOf("Z{.*}", 0, 0, MAX / 8 + 1));
        CHECK.raises(Check.ARITHMETIC, "a sum", () -> scoreOf("X{.}Y{.}.*", MAX, 1, 0));
        CHECK.raises(Check.ARITHMETIC, "a sum though Z would bring it back", () -> scoreOf("X{.}Y{.}Z{.}.*", MAX, 1, -1));
        CHECK.raises(Check.ARITHMETIC, "a sum that would wrap to 0", () -> scoreOf("X{.}Y{.}.*", MIN, MIN, 0));
        CHECK.same("the greatest that fits", scoreOf("X{.}Y{.}.*", MAX - 1, 1, 0), MAX);
        CHECK.same("the least that fits", scoreOf("X{.}Y{.}.*", MIN + 1, -1, 0), MIN);
    }
}
