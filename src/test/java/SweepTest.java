import java.lang.reflect.InvocationTargetException;
import java.lang.reflect.Method;
import java.lang.reflect.Modifier;
import java.util.ArrayList;
import java.util.Arrays;
import java.util.List;
import java.util.Map;
import java.util.TreeMap;

/**
 * Calls every method with every choice of arguments at and beyond its bounds, in several states: the answer
 * is that of Reference, only what the method declares is thrown, and a refused call changes nothing.
 */
public final class SweepTest {
    private static final Check CHECK = new Check("SweepTest");
    private static final int MAX = Integer.MAX_VALUE;
    private static final int MIN = Integer.MIN_VALUE;
    private static final Map<String, Method> METHODS = methodsOf(DocumentSpanner.class);
    private static final Map<String, Method> DUE_METHODS = methodsOf(Reference.class);

    /** The states: each is what these calls make of a new object; "type" appends characters, "document" letters. */
    private static final String[][] STATES = {
        {},
        {"type (", "parse", "type a*", "save", "type +"},
        {"document ab", "type .*X{.}.*|Y{.*}", "parse", "extract 0", "type X{a}Z{b}|.*", "parse", "extract 2", "type c", "parse",
            "extract 5", "openCursor 0", "advance 1", "setWeight 1 -7"},
        {"document abcdefgh", "type X{.}.*Y{}|.*Z{.}", "parse", "extract 0", "extract 3", "save", "openCursor 3", "advance 9",
            "setWeight 0 2147483647", "setWeight 2 2147483647", "type X{.*}Z{}", "parse", "extract 5", "type *a", "parse",
            "type aaaaaaaaaabbbbbbbbbbccccccccccdddddddddd"},
        {"document aaaaaaaa", "type X{.*}", "parse", "extract 0", "extract 1", "extract 2", "extract 3", "extract 4", "type X{.*}.?",
            "parse", "extract 5", "type (X{.*}|Y{.*}|.)*", "parse", "openCursor 5", "advance 1", "save", "setWeight 0 268435456",
            "clear 3"},
    };

    private final Object object;
    private final Map<String, Method> methods;

    private SweepTest(Object object, Map<String, Method> methods) {
        this.object = object;
        this.methods = methods;
    }

    public static void main(String[] args) {
        for (String[] state : STATES) {
            String before = spanner(state).snapshot();
            CHECK.same("the state of " + Arrays.toString(state), before, reference(state).snapshot());
            for (Method method : METHODS.values()) {
                sweep(state, before, method);
            }
        }
        CHECK.end();
    }

    private static Map<String, Method> methodsOf(Class<?> type) {
        Map<String, Method> methods = new TreeMap<>();
        for (Method method : type.getDeclaredMethods()) {
            if (!Modifier.isPrivate(method.getModifiers()) && !Modifier.isStatic(method.getModifiers())) {
                methods.put(method.getName(), method);
            }
        }
        return methods;
    }

    private static SweepTest spanner(String[] state) {
        return new SweepTest(new DocumentSpanner(), METHODS).play(state);
    }

    private static SweepTest reference(String[] state) {
        return new SweepTest(new Reference(), DUE_METHODS).play(state);
    }

    private static void sweep(String[] state, String before, Method method) {
        int[] values = valuesFor(method);
        int count = method.getParameterCount();
        int choices = (int) Math.pow(values.length, count);
        for (int choice = 0; choice < choices; choice++) {
            int[] arguments = new int[count];
            int rest = choice;
            for (int i = 0; i < count; i++) {
                arguments[i] = values[rest % values.length];
                rest /= values.length;
            }
            tryCall(state, before, method, arguments);
        }
    }

    /** The fewer parameters, the more values for each. */
    private static int[] valuesFor(Method method) {
        switch (method.getParameterCount()) {
            case 0:
            case 1:
                return new int[] {MIN, MIN + 1, -8, -1, 0, 1, 2, 3, 4, 5, 6, 7, 8, 9, 32, 33, 40, 96, 97, 122, 123, 126, 127, 255, 256, 353,
                    65536, MAX - 1, MAX};
            case 2:
                return new int[] {MIN, -1, 0, 1, 2, 3, 5, 6, 7, 8, 9, 256, MAX};
            case 3:
                return new int[] {MIN, -1, 0, 2, 3, 5, 6, 7, 8};
            case 4:
                return new int[] {-1, 0, 2, 3, 6};
            default:
                return new int[] {-1, 0, 3, 6};
        }
    }

    private static void tryCall(String[] state, String before, Method method, int[] arguments) {
        String what = method.getName() + Arrays.toString(arguments) + " after " + Arrays.toString(state);
        SweepTest got = spanner(state);
        SweepTest due = reference(state);
        String answer = got.call(method.getName(), arguments);
        CHECK.same(what, answer, due.call(method.getName(), arguments));
        String after = got.snapshot();
        if (answer.startsWith("throws.")) {
            CHECK.yes(answer + " is declared: " + what, declares(method, answer));
        }
        if (answer.startsWith("throws.") && !method.getName().equals("parse")) {
            CHECK.same("a refused call changes nothing: " + what, after, before);
        } else {
            CHECK.same("the state after " + what, after, due.snapshot());
        }
    }

    private static boolean declares(Method method, String answer) {
        for (Class<?> type : method.getExceptionTypes()) {
            if (answer.equals("throws." + type.getSimpleName())) {
                return true;
            }
        }
        return false;
    }

    private SweepTest play(String[] calls) {
        for (String call : calls) {
            String[] words = call.split(" ");
            if (words[0].equals("type") || words[0].equals("document")) {
                for (char character : words[1].toCharArray()) {
                    call(words[0].equals("type") ? "appendCharacter" : "appendLetter", character);
                }
                continue;
            }
            int[] arguments = new int[words.length - 1];
            for (int i = 0; i < arguments.length; i++) {
                arguments[i] = Integer.parseInt(words[i + 1]);
            }
            call(words[0], arguments);
        }
        return this;
    }

    private String call(String name, int... arguments) {
        Object[] boxed = new Object[arguments.length];
        for (int i = 0; i < arguments.length; i++) {
            boxed[i] = arguments[i];
        }
        try {
            return String.valueOf(methods.get(name).invoke(object, boxed));
        } catch (InvocationTargetException e) {
            return "throws." + e.getCause().getClass().getSimpleName();
        } catch (IllegalAccessException e) {
            return "no access";
        }
    }

    /** All that can be seen of the state. The object is of no use afterwards. */
    private String snapshot() {
        List<String> seen = new ArrayList<>();
        seen.add("cursor " + call("cursorRow") + " error " + call("errorPosition"));
        seen.add(savedPart());
        for (int slot = 0; slot < 6; slot++) {
            seen.add("slot " + slot + " held " + call("clear", slot) + ", then the cursor is " + call("cursorRow"));
        }
        // What the buffer has is seen by a formula made of it; the dot tells its length.
        seen.add("buffer " + call("appendCharacter", '.') + " " + call("parse") + " " + call("errorPosition"));
        seen.add(call("formulaKind") + " " + call("extract", 0));
        seen.add("restored " + call("restore") + " " + savedPart());
        return seen.toString();
    }

    /** What save saves. */
    private String savedPart() {
        StringBuilder text = new StringBuilder("letters");
        for (int position = 0; position <= 8; position++) {
            text.append(' ').append(call("letter", position));
        }
        text.append(" formula ").append(call("formulaVariables")).append(' ').append(call("formulaKind"));
        for (int slot = 0; slot < 6; slot++) {
            text.append(" slot ").append(slot).append(": ").append(rows(slot));
        }
        text.append(" weights");
        for (int variable = 0; variable < 3; variable++) {
            text.append(' ').append(call("setWeight", variable, 0));
        }
        return text.toString();
    }

    private String rows(int slot) {
        StringBuilder text = new StringBuilder(call("size", slot));
        for (int row = 0; !call("start", slot, row, 0).startsWith("throws"); row++) {
            text.append(';');
            for (int variable = 0; variable < 3; variable++) {
                text.append(' ').append(call("start", slot, row, variable)).append(call("end", slot, row, variable));
            }
        }
        return text.toString();
    }
}
