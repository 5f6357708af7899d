import java.lang.reflect.InvocationTargetException;
import java.lang.reflect.Method;
import java.util.ArrayList;
import java.util.HashMap;
import java.util.List;
import java.util.Map;

/**
 * Runs of calls on a new object, written as the document and the issues write them:
 * {@code clear(3) = 4; makeRing(5) = throws.IllegalArgumentException}. A call without an answer is
 * made, but not looked at. A call that throws is also looked at for what it changed.
 */
final class Runs {
    static final String BOUNDS = "throws.IndexOutOfBoundsException; ";
    static final String ARGUMENT = "throws.IllegalArgumentException; ";
    static final String OPERATION = "throws.UnsupportedOperationException; ";
    static final String ELEMENT = "throws.NoSuchElementException; ";
    static final String STATE = "throws.IllegalStateException; ";

    private static final int MOST_CALLS = 512;
    private static final Map<String, Method> METHODS = methods();
    private static final List<String> LAST_LOOK = lastLook();

    private Runs() {
    }

    static void due(Checks checks, String name, String... lines) {
        Sparsewalk walk = new Sparsewalk();
        List<String> done = new ArrayList<>();
        for (String row : String.join(" ", lines).split(";")) {
            if (row.isBlank()) {
                continue;
            }
            int sign = row.indexOf('=');
            String call = sign < 0 ? row.trim() : row.substring(0, sign).trim();
            String got = answer(walk, call);
            if (sign >= 0) {
                checks.due(name + ": " + done + " " + call, got, row.substring(sign + 1).trim());
            }
            if (got.startsWith("throws.")) {
                checks.due(name + ": what stands behind " + done + " " + call, standing(done, call),
                        standing(done, null));
            }
            done.add(call);
        }
        checks.due(name + ": few calls", done.size() <= MOST_CALLS, true);
    }

    /** The answer of the last call of a run. */
    static String last(String... lines) {
        Sparsewalk walk = new Sparsewalk();
        String got = "";
        for (String call : String.join(" ", lines).split(";")) {
            if (!call.isBlank()) {
                got = answer(walk, call.trim());
            }
        }
        return got;
    }

    static String answer(Sparsewalk walk, String call) {
        int open = call.indexOf('(');
        String inside = call.substring(open + 1, call.length() - 1);
        List<Object> arguments = new ArrayList<>();
        if (!inside.isBlank()) {
            for (String word : inside.split(",")) {
                if (word.trim().matches("true|false")) {
                    arguments.add(Boolean.valueOf(word.trim()));
                } else {
                    arguments.add(Integer.valueOf(word.trim()));
                }
            }
        }
        try {
            Object answer = METHODS.get(call.substring(0, open)).invoke(walk, arguments.toArray());
            return answer instanceof Character ? "'" + answer + "'" : answer.toString();
        } catch (InvocationTargetException e) {
            return "throws." + e.getCause().getClass().getSimpleName();
        } catch (IllegalAccessException e) {
            throw new IllegalArgumentException("no such call: " + call, e);
        }
    }

    /** What a long look answers behind the calls, and behind one more if there is one. */
    private static String standing(List<String> calls, String more) {
        Sparsewalk walk = new Sparsewalk();
        for (String call : calls) {
            answer(walk, call);
        }
        if (more != null) {
            answer(walk, more);
        }
        StringBuilder seen = new StringBuilder();
        int left = MOST_CALLS - calls.size() - 1;
        for (int number = 0; number < Math.min(left, LAST_LOOK.size()); number++) {
            seen.append(answer(walk, LAST_LOOK.get(number))).append(' ');
        }
        return seen.toString();
    }

    /** What is kept is seen by using it up, so that such a look must be the last one. */
    private static List<String> lastLook() {
        List<String> calls = new ArrayList<>(List.of("checksum()", "getDrawn()"));
        for (int place = 0; place < 7; place++) {
            calls.add("getRotor(" + place + ")");
        }
        for (int tree = 0; tree < 5; tree++) {
            calls.add("nextTree()");
        }
        calls.addAll(List.of("setSink(0)", "seed(1)"));
        for (int change = 0; change < 31; change++) {
            calls.add("undo()");
            calls.add("checksum()");
        }
        for (int one = 0; one < 7; one++) {
            for (int other = one + 1; other < 7; other++) {
                calls.add("choose(" + one + ", " + other + ", 0)");
            }
        }
        return calls;
    }

    private static Map<String, Method> methods() {
        Map<String, Method> named = new HashMap<>();
        for (Method method : Sparsewalk.class.getMethods()) {
            named.put(method.getName(), method);
        }
        return named;
    }
}
