import java.io.IOException;
import java.io.UncheckedIOException;
import java.nio.file.Files;
import java.nio.file.Path;
import java.util.LinkedHashSet;
import java.util.Map;
import java.util.Set;
import java.util.TreeMap;

/**
 * The sentences of DOC.md. A boundary test says which sentence the checks that follow are for; a
 * sentence without checks, one that the document does not have, and one that is left out are faults.
 */
final class Sentences {
    static final int DESCRIPTION = 0;
    private static final Path DOCUMENT = Path.of("../shared/DOC.md");

    private final Check check;
    private final Map<Integer, Set<String>> all = new TreeMap<>();
    private final Map<Integer, Set<String>> left = new TreeMap<>();
    private int section = DESCRIPTION;
    private String current = "";
    private int checkedBefore = 0;

    /** Watches over the sentences of these promises; promise 0 is what stands before them. */
    Sentences(Check check, int first, int last) {
        this.check = check;
        String text = read();
        for (int promise = first; promise <= last; promise++) {
            all.put(promise, sentencesOf(promise == DESCRIPTION ? descriptionIn(text) : promiseIn(text, promise)));
            left.put(promise, new LinkedHashSet<>(all.get(promise)));
        }
    }

    private static String read() {
        try {
            return Files.readString(DOCUMENT).replace("`", "");
        } catch (IOException e) {
            throw new UncheckedIOException(e);
        }
    }

    private static String descriptionIn(String text) {
        String what = between(text, "## What it is\n", "\n## ");
        return what + "\n\n" + between(text, "## Description\n", "\nExamples:");
    }

    private static String promiseIn(String text, int promise) {
        return between(text, "## Promise " + promise + ":", "\n## ");
    }

    private static String between(String text, String begin, String end) {
        int from = text.indexOf(begin) + begin.length();
        return text.substring(from, text.indexOf(end, from));
    }

    private static Set<String> sentencesOf(String text) {
        Set<String> sentences = new LinkedHashSet<>();
        for (String paragraph : text.split("\n\\s*\n")) {
            if (paragraph.startsWith("- ")) {
                addParameters(paragraph, sentences);
            } else if (!isHeadingOrSignature(paragraph)) {
                addProse(paragraph, sentences);
            }
        }
        return sentences;
    }

    private static boolean isHeadingOrSignature(String paragraph) {
        return paragraph.matches("(?s) \\w[\\w ]*|(int |boolean )?\\w+\\(.*");
    }

    /** A parameter's row is a sentence of its own if it names a range or that two may be the same. */
    private static void addParameters(String paragraph, Set<String> sentences) {
        for (String row : paragraph.split("\n")) {
            if (row.matches(".*[,\\d].*")) {
                sentences.add(row.substring(2));
            }
        }
    }

    private static void addProse(String paragraph, Set<String> sentences) {
        // Up to three words before a point are a heading, such as "Kinds of formulas.", unless they are an answer.
        for (String sentence : paragraph.strip().replaceAll("\\s+", " ").split("(?<=[a-z0-9]\\.) ")) {
            if (sentence.split(" ").length > 3 || !sentence.endsWith(".") || sentence.startsWith("Returns")) {
                sentences.add(sentence);
            }
        }
    }

    void promise(int number) {
        finish();
        section = number;
    }

    /** The checks from here to the next call are for this sentence, or one that contains these words. */
    void says(String words) {
        finish();
        String sentence = find(words);
        current = (section == DESCRIPTION ? "Description" : "Promise " + section) + ", \"" + words + "\"";
        check.about(current);
        checkedBefore = check.checked();
        if (sentence.isEmpty()) {
            check.fault("the document has no such sentence");
        }
        left.get(section).remove(sentence);
    }

    /** This sentence has nothing that a call could show. */
    void setAside(String words) {
        finish();
        left.get(section).remove(find(words));
    }

    private String find(String words) {
        if (all.get(section).contains(words)) {
            return words;
        }
        for (String sentence : all.get(section)) {
            if (section == DESCRIPTION && sentence.contains(words)) {
                return sentence;
            }
        }
        return "";
    }

    private void finish() {
        if (!current.isEmpty() && check.checked() == checkedBefore) {
            check.fault("nothing was checked");
        }
        current = "";
        check.about("");
    }

    void end() {
        finish();
        for (Map.Entry<Integer, Set<String>> entry : left.entrySet()) {
            for (String sentence : entry.getValue()) {
                check.fault("no test for promise " + entry.getKey() + ": " + sentence);
            }
        }
        check.end();
    }
}
