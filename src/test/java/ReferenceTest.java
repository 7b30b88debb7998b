import java.lang.reflect.InvocationTargetException;
import java.lang.reflect.Method;
import java.util.ArrayList;
import java.util.HashMap;
import java.util.List;
import java.util.Map;
import java.util.Random;

/** Holds DocumentSpanner against Reference on many runs of calls, the same ones every time. */
public final class ReferenceTest {
    private static final String[] QUESTIONS = {
        "size", "domain", "disjoint", "classes", "total", "errorPosition", "cursorRow", "formulaKind",
        "formulaVariables", "start", "end", "letter", "score", "rank", "best", "contained", "splitCorrect"
    };
    private static final String[] DEEDS = {
        "extract", "extract", "extract", "union", "join", "join", "minus", "antijoin", "project", "exchange",
        "selectEqual", "selectLength", "selectRelation", "extractSplit", "openCursor", "openCursor", "advance",
        "skipTo", "setWeight", "clear", "save", "restore", "parse"
    };
    private static final int[] ODD_INTS = {
        -1, 3, 6, 7, 8, 9, 199, 200, 1000, Integer.MAX_VALUE, Integer.MIN_VALUE, Integer.MIN_VALUE / 8,
        Integer.MAX_VALUE / 8, Integer.MAX_VALUE / 8 + 1, 300000000, -300000000
    };

    private static final Check CHECK = new Check("ReferenceTest");
    private static final Map<String, Method> METHODS = new HashMap<>();
    private static final Map<String, Method> DUE_METHODS = new HashMap<>();

    private final Random random;
    private final int run;
    private final DocumentSpanner spanner = new DocumentSpanner();
    private final Reference reference = new Reference();
    private final List<String> told = new ArrayList<>();
    private boolean good = true;

    private ReferenceTest(int run) {
        this.run = run;
        random = new Random(run);
    }

    public static void main(String[] args) {
        int runs = args.length > 0 ? Integer.parseInt(args[0]) : 1500;
        for (Method method : DocumentSpanner.class.getDeclaredMethods()) {
            METHODS.put(method.getName(), method);
        }
        for (Method method : Reference.class.getDeclaredMethods()) {
            if (!java.lang.reflect.Modifier.isPrivate(method.getModifiers())) {
                DUE_METHODS.put(method.getName(), method);
            }
        }
        int faults = 0;
        for (int run = 0; run < runs && faults < 5; run++) {
            faults += new ReferenceTest(run).play() ? 0 : 1;
        }
        CHECK.end();
    }

    private boolean play() {
        feedDocument();
        for (int step = 0; step < 60 && good; step++) {
            int choice = random.nextInt(100);
            if (choice < 3) {
                feedDocument();
            } else if (choice < 20) {
                feedFormula();
            } else if (choice < 55) {
                callAtRandom(DEEDS[random.nextInt(DEEDS.length)]);
            } else {
                callAtRandom(QUESTIONS[random.nextInt(QUESTIONS.length)]);
            }
            if (good && random.nextInt(8) == 0) {
                compareTables();
            }
        }
        return good;
    }

    private void feedDocument() {
        if (random.nextInt(4) > 0) {
            call("clearDocument");
        }
        int letters = random.nextInt(3) == 0 ? random.nextInt(10) : random.nextInt(6);
        int alphabet = 1 + random.nextInt(3);
        for (int i = 0; i < letters; i++) {
            call("appendLetter", random.nextInt(60) == 0 ? 96 + 27 * random.nextInt(2) : 'a' + random.nextInt(alphabet));
        }
    }

    private void feedFormula() {
        String text = formula(random.nextInt(4), 40);
        if (random.nextInt(6) == 0) {
            text = spoil(text);
        }
        for (char character : text.toCharArray()) {
            call("appendCharacter", character);
        }
        if (random.nextInt(20) > 0) {
            call("parse");
            call("errorPosition");
        }
        if (good && random.nextInt(2) == 0) {
            call("formulaKind");
            call("formulaVariables");
        }
        if (random.nextInt(2) == 0) {
            call("extract", random.nextInt(6));
        }
    }

    private String spoil(String text) {
        String signs = "ab.*+?|(){}XYZA~!";
        StringBuilder spoiled = new StringBuilder(text);
        for (int times = 1 + random.nextInt(3); times > 0; times--) {
            char sign = signs.charAt(random.nextInt(signs.length()));
            int place = random.nextInt(spoiled.length() + 1);
            if (random.nextBoolean() || place == spoiled.length()) {
                spoiled.insert(place, sign);
            } else {
                spoiled.deleteCharAt(place);
            }
        }
        return spoiled.toString();
    }

    private String formula(int depth, int most) {
        for (int attempt = 0; attempt < 50; attempt++) {
            StringBuilder text = new StringBuilder();
            int sequences = random.nextInt(3) == 0 ? 2 + random.nextInt(2) : 1;
            for (int i = 0; i < sequences; i++) {
                text.append(i == 0 ? "" : "|");
                for (int items = random.nextInt(5); items > 0; items--) {
                    text.append(item(depth));
                }
            }
            if (text.length() <= most) {
                return text.toString();
            }
        }
        return ".*";
    }

    private String item(int depth) {
        int choice = random.nextInt(10);
        String repeater = random.nextInt(3) == 0 ? "*+?".substring(random.nextInt(3)).substring(0, 1) : "";
        if (choice < 2) {
            return ".*";
        }
        if (choice < 5 || depth == 0) {
            return "aab.".charAt(random.nextInt(4)) + repeater;
        }
        String inside = formula(depth - 1, 30);
        return (choice < 7 ? "(" + inside + ")" : "XYZ".charAt(random.nextInt(3)) + "{" + inside + "}") + repeater;
    }

    private void callAtRandom(String name) {
        int[] arguments = new int[METHODS.get(name).getParameterCount()];
        for (int i = 0; i < arguments.length; i++) {
            arguments[i] = random.nextInt(12) == 0 ? ODD_INTS[random.nextInt(ODD_INTS.length)] : random.nextInt(random.nextBoolean() ? 3 : 6);
        }
        call(name, arguments);
    }

    private void compareTables() {
        for (int slot = 0; slot < 6; slot++) {
            String rows = answer(METHODS.get("size"), spanner, slot);
            call("size", slot);
            for (int row = 0; good && !rows.startsWith("throws") && row < Integer.parseInt(rows); row++) {
                for (int variable = 0; variable < 3; variable++) {
                    call("start", slot, row, variable);
                    call("end", slot, row, variable);
                }
            }
        }
    }

    private void call(String name, int... arguments) {
        if (!good) {
            return;
        }
        String got = answer(METHODS.get(name), spanner, arguments);
        String due = answer(DUE_METHODS.get(name), reference, arguments);
        StringBuilder text = new StringBuilder(name).append('(');
        for (int i = 0; i < arguments.length; i++) {
            text.append(i == 0 ? "" : ", ").append(arguments[i]);
        }
        told.add(text.append("): ").append(got).toString());
        CHECK.same("run " + run + " " + text, got, due);
        if (!got.equals(due)) {
            good = false;
            System.out.println(String.join("; ", told));
        }
    }

    private static String answer(Method method, Object object, int... arguments) {
        Object[] boxed = new Object[arguments.length];
        for (int i = 0; i < arguments.length; i++) {
            boxed[i] = arguments[i];
        }
        try {
            return String.valueOf(method.invoke(object, boxed));
        } catch (InvocationTargetException e) {
            return "throws." + e.getCause().getClass().getSimpleName();
        } catch (IllegalAccessException e) {
            return "no access";
        }
    }
}
