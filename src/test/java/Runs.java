import java.lang.reflect.InvocationTargetException;
import java.lang.reflect.Method;
import java.util.ArrayList;
import java.util.List;

/**
 * Runs of calls on a new object, written as the document and the issues write them:
 * {@code clear(3) = 4; makeRing(5) = throws.IllegalArgumentException}. A call that throws is also
 * looked at for what it changed.
 */
final class Runs {
    private Runs() {
    }

    static void due(Checks checks, String name, String... lines) {
        due(checks, name, new Sparsewalk(), lines);
    }

    static void due(Checks checks, String name, Sparsewalk walk, String... lines) {
        StringBuilder done = new StringBuilder();
        for (String row : String.join(" ", lines).split(";")) {
            if (row.isBlank()) {
                continue;
            }
            int sign = row.indexOf('=');
            String call = row.substring(0, sign).trim();
            String before = look(walk);
            String got = answer(walk, call);
            done.append(call).append("; ");
            checks.due(name + ": " + done, got, row.substring(sign + 1).trim());
            if (got.startsWith("throws.")) {
                checks.due(name + ": what stands behind " + done, look(walk), before);
            }
        }
    }

    private static String answer(Sparsewalk walk, String call) {
        int open = call.indexOf('(');
        String inside = call.substring(open + 1, call.length() - 1);
        List<Object> arguments = new ArrayList<>();
        List<Class<?>> types = new ArrayList<>();
        if (!inside.isBlank()) {
            for (String word : inside.split(",")) {
                boolean isNumber = !word.trim().matches("true|false");
                types.add(isNumber ? int.class : boolean.class);
                if (isNumber) {
                    arguments.add(Integer.valueOf(word.trim()));
                } else {
                    arguments.add(Boolean.valueOf(word.trim()));
                }
            }
        }
        try {
            Method method =
                    Sparsewalk.class.getMethod(call.substring(0, open), types.toArray(new Class<?>[0]));
            Object answer = method.invoke(walk, arguments.toArray());
            return answer instanceof Character ? "'" + answer + "'" : answer.toString();
        } catch (InvocationTargetException e) {
            return "throws." + e.getCause().getClass().getSimpleName();
        } catch (ReflectiveOperationException e) {
            throw new IllegalArgumentException("no such call: " + call, e);
        }
    }

    /** All that can be seen without a change that stays. */
    private static String look(Sparsewalk walk) {
        StringBuilder seen = new StringBuilder();
        seen.append(walk.checksum()).append(' ').append(answer(walk, "getDrawn()"));
        int sink = walk.setSink(0);
        walk.setSink(sink);
        seen.append(" sink ").append(sink);
        for (int one = 0; one < 7; one++) {
            seen.append(' ').append(answer(walk, "getRotor(" + one + ")"));
            for (int other = one + 1; other < 7; other++) {
                String call = "choose(" + one + ", " + other + ", ";
                String chosen = answer(walk, call + "0)");
                seen.append(' ').append(chosen);
                if (!chosen.startsWith("throws.")) {
                    answer(walk, call + chosen + ")");
                }
            }
        }
        return seen.toString();
    }
}
