import java.io.IOException;
import java.lang.reflect.Constructor;
import java.lang.reflect.Field;
import java.lang.reflect.Method;
import java.lang.reflect.Modifier;
import java.nio.file.Files;
import java.nio.file.Path;
import java.util.ArrayList;
import java.util.HashSet;
import java.util.List;
import java.util.Set;
import java.util.TreeSet;
import java.util.regex.Matcher;
import java.util.regex.Pattern;

/** What can be seen of LANGUAGE.md from outside, and the face of the document. */
public final class LanguageTest {
    private static final Check CHECK = new Check("LanguageTest");
    private static final Path SOURCE = Path.of("src/main/java/DocumentSpanner.java");

    private static final String[] FACE = {
        "int appendLetter(int) throws IllegalArgumentException, IllegalStateException",
        "int clearDocument()",
        "int letter(int) throws IndexOutOfBoundsException",
        "int appendCharacter(int) throws IllegalArgumentException, IllegalStateException",
        "int parse() throws IllegalArgumentException",
        "int errorPosition()",
        "int formulaVariables() throws IllegalStateException",
        "int formulaKind() throws IllegalStateException",
        "int extract(int) throws IndexOutOfBoundsException, IllegalStateException",
        "int size(int) throws IndexOutOfBoundsException, IllegalStateException",
        "int start(int, int, int) throws IndexOutOfBoundsException, IllegalStateException",
        "int end(int, int, int) throws IndexOutOfBoundsException, IllegalStateException",
        "int domain(int) throws IndexOutOfBoundsException, IllegalStateException",
        "int clear(int) throws IndexOutOfBoundsException",
        "int union(int, int, int) throws IndexOutOfBoundsException, IllegalStateException",
        "int join(int, int, int) throws IndexOutOfBoundsException, IllegalStateException",
        "int minus(int, int, int) throws IndexOutOfBoundsException, IllegalStateException",
        "int antijoin(int, int, int) throws IndexOutOfBoundsException, IllegalStateException",
        "int project(int, int, int) throws IndexOutOfBoundsException, IllegalArgumentException, IllegalStateException",
        "int exchange(int, int, int, int) throws IndexOutOfBoundsException, IllegalStateException",
        "int selectEqual(int, int, int, int) throws IndexOutOfBoundsException, IllegalStateException",
        "int selectLength(int, int, int, int, int) throws IndexOutOfBoundsException, IllegalStateException",
        "int selectRelation(int, int, int, int, int)"
            + " throws IndexOutOfBoundsException, IllegalArgumentException, IllegalStateException",
        "boolean contained(int, int) throws IndexOutOfBoundsException, IllegalStateException",
        "boolean disjoint(int) throws IndexOutOfBoundsException, IllegalStateException",
        "int extractSplit(int, int) throws IndexOutOfBoundsException, IllegalStateException",
        "boolean splitCorrect(int) throws IndexOutOfBoundsException, IllegalStateException",
        "int openCursor(int) throws IndexOutOfBoundsException, IllegalStateException",
        "int cursorRow() throws IllegalStateException",
        "int advance(int) throws IllegalArgumentException, IllegalStateException",
        "int skipTo(int) throws IllegalStateException",
        "int setWeight(int, int) throws IndexOutOfBoundsException",
        "int score(int, int) throws IndexOutOfBoundsException, IllegalStateException, ArithmeticException",
        "int classes(int) throws IndexOutOfBoundsException, IllegalStateException, ArithmeticException",
        "int rank(int, int) throws IndexOutOfBoundsException, IllegalStateException, ArithmeticException",
        "int best(int, int) throws IndexOutOfBoundsException, IllegalStateException, ArithmeticException",
        "int total(int) throws IndexOutOfBoundsException, IllegalStateException, ArithmeticException",
        "int save()",
        "int restore() throws IllegalStateException",
    };

    public static void main(String[] args) throws IOException {
        face();
        membersInside();
        source(Files.readString(SOURCE));
        CHECK.end();
    }

    private static void face() {
        Class<?> spanner = DocumentSpanner.class;
        CHECK.yes("public", Modifier.isPublic(spanner.getModifiers()));
        CHECK.yes("final", Modifier.isFinal(spanner.getModifiers()));
        Set<String> due = new TreeSet<>(List.of(FACE));
        Set<String> got = new TreeSet<>();
        for (Method method : spanner.getDeclaredMethods()) {
            if (!Modifier.isPrivate(method.getModifiers())) {
                CHECK.yes(method.getName() + " is public", Modifier.isPublic(method.getModifiers()));
                CHECK.no(method.getName() + " is static", Modifier.isStatic(method.getModifiers()));
                got.add(describe(method));
            }
        }
        CHECK.same("the face", got.toString(), due.toString());
        Constructor<?>[] constructors = spanner.getDeclaredConstructors();
        CHECK.same("constructors", constructors.length, 1);
        CHECK.yes("public constructor", Modifier.isPublic(constructors[0].getModifiers()));
        CHECK.same("its parameters", constructors[0].getParameterCount(), 0);
    }

    private static String describe(Method method) {
        List<String> types = new ArrayList<>();
        for (Class<?> type : method.getParameterTypes()) {
            types.add(type.getSimpleName());
        }
        List<String> thrown = new ArrayList<>();
        for (Class<?> type : method.getExceptionTypes()) {
            thrown.add(type.getSimpleName());
        }
        return method.getReturnType().getSimpleName() + " " + method.getName() + "(" + String.join(", ", types) + ")"
                + (thrown.isEmpty() ? "" : " throws " + String.join(", ", thrown));
    }

    private static void membersInside() {
        Set<String> faceNames = new HashSet<>();
        for (String line : FACE) {
            faceNames.add(line.substring(line.indexOf(' ') + 1, line.indexOf('(')));
        }
        List<Class<?>> classes = new ArrayList<>(List.of(DocumentSpanner.class));
        classes.addAll(List.of(DocumentSpanner.class.getDeclaredClasses()));
        CHECK.yes("at most twelve classes", classes.size() <= 12);
        for (Class<?> type : classes) {
            boolean outer = type == DocumentSpanner.class;
            CHECK.yes(type + " is static", outer || Modifier.isStatic(type.getModifiers()));
            CHECK.no(type + " is public", !outer && Modifier.isPublic(type.getModifiers()));
            int fields = 0;
            for (Field field : type.getDeclaredFields()) {
                boolean isStatic = Modifier.isStatic(field.getModifiers());
                CHECK.yes(field + " is private", !outer || Modifier.isPrivate(field.getModifiers()));
                CHECK.yes(field + " is final", !isStatic || Modifier.isFinal(field.getModifiers()));
                fields += isStatic ? 0 : 1;
            }
            CHECK.yes(type + " has at most twenty fields", fields <= 20);
            for (Method method : type.getDeclaredMethods()) {
                CHECK.yes(method + " has at most seven parameters", method.getParameterCount() <= 7);
                CHECK.no(method + " bears a name of the face",
                        Modifier.isPrivate(method.getModifiers()) && faceNames.contains(method.getName()));
            }
        }
    }

    private static void source(String text) {
        String code = text.replaceAll("(?s)/\\*.*?\\*/", "").replaceAll("//[^\n]*", "");
        for (Matcher m = Pattern.compile("import [^;]*;").matcher(code); m.find();) {
            CHECK.same("imports", m.group(), "import java.util.Arrays;");
        }
        String[] refused = {"->", "::", "\\bcatch\\b", "\\bfinally\\b", "\\bsynchronized\\b", "\\bassert\\b", "\\w+Exact\\b",
            "\\bpackage\\b", "\\bprotected\\b", "\\bthread\\b", "@", "System\\.(?!arraycopy)", "Math\\.(?!max|min|abs)",
            "\\bhashCode\\b", "\\btoString\\b", "while \\(true\\)", "for \\(;;\\)", "\\bstatic \\{", "\\+ \"", "\" \\+"};
        for (String word : refused) {
            CHECK.no("the source has " + word, Pattern.compile(word).matcher(code).find());
        }
        for (Matcher m = Pattern.compile("throw [^;]*;").matcher(code); m.find();) {
            CHECK.yes(m.group(), m.group().matches("throw new (IllegalState|IllegalArgument|IndexOutOfBounds|Arithmetic)"
                    + "Exception\\(\"[^\"]*\"\\);"));
        }
        for (int i = 0; i < text.length(); i++) {
            if (text.charAt(i) > 126) {
                CHECK.fault("a sign above 126 in the source at " + i);
            }
        }
        methodLengths(code);
    }

    private static void methodLengths(String code) {
        int begin = -1;
        String[] lines = code.split("\n");
        for (int i = 0; i < lines.length; i++) {
            if (lines[i].matches("( {4}| {8})(public|private|static|final|abstract|\\w).*\\) *(throws .*)?\\{")) {
                begin = i;
            } else if (begin >= 0 && lines[i].matches("( {4}| {8})}")) {
                CHECK.yes("the method at line " + (begin + 1) + " is short", i - begin <= 60);
                begin = -1;
            }
        }
    }
}
