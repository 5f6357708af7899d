import java.lang.reflect.InvocationTargetException;
import java.lang.reflect.Method;
import java.util.Arrays;
import java.util.Random;

/** Random runs of 512 calls, wrong ones among them, are answered as the plain model does. */
public final class ModelTest {
    private static final int CALLS = 512;
    private static final int[] WRONG = {
        -1, -2, 7, 8, 15, 100, 1000, Integer.MAX_VALUE, Integer.MIN_VALUE
    };

    /**
     * Each call with its arguments: p a place, b a boolean, and ranges. Calls that shape the graph
     * stand several times, so that they are drawn more often.
     */
    private static final String[] CALLS_DRAWN = {
        "setWeight p p 0-4", "setWeight p p 0-4", "setWeight p p 0-4", "setWeight p p 1-4",
        "setWeight p p 1-4", "setWeight p p 1-4", "setWeight p p 1-1", "setWeight p p 0-0",
        "getWeight p p", "undo", "undo", "getDegree p", "isJoined", "getPair p p", "makeRing 1-4",
        "getTime p p b", "getTime p p b", "getReturn p b", "getChance p p p b",
        "getChance p p p b", "getEscape p p b", "countWalks p p 0-40", "getResistance p p b",
        "countTrees", "countTreesWith p p", "countForests 1-127", "listTrees", "nextTree",
        "nextTree", "nextTree", "nextTree", "nextTree", "nextTree", "nextTree", "drawTree p",
        "getDrawn", "getDrawn", "seed 1-2147483646", "putWalker b p", "putWalker b p",
        "walk 1-200", "walk 1-3", "getWalker b", "setChips p 0-99", "setChips p 0-9",
        "setChips p 0-9", "setChips p 95-99", "getChips p", "getChips p", "setSink p", "fire p",
        "fire p", "settle", "settle", "getState", "getState", "countRecurrent", "turn 1-200", "turn 1-3", "getRotor p",
        "getRotor p", "choose p p 0-12", "choose p p 0-4", "choose p p 0-4", "standsFor 1-3",
        "standsFor 1-3", "getCut 1-126", "getShare b", "getBest", "countAbove -1-60",
        "countAbove 0-12", "getCoefficient 0-7", "getMeanDegree", "getOhms p p", "checksum",
        "checksum", "isSound",
    };

    private final Checks checks = new Checks();
    private final Random random;
    private final String run;
    private final Sparsewalk real = new Sparsewalk();
    private final PlainModel plain = new PlainModel();
    private int places = 4;
    private int calls;

    private ModelTest(int run) {
        this.run = "run " + run + ": ";
        random = new Random(run);
    }

    public static void main(String[] args) throws Exception {
        int runs = args.length > 0 ? Integer.parseInt(args[0]) : 120;
        int from = args.length > 1 ? Integer.parseInt(args[1]) : 0;
        Checks all = new Checks();
        for (int run = from; run < from + runs; run++) {
            ModelTest test = new ModelTest(run);
            test.drawCalls();
            all.add(test.checks);
        }
        all.end("ModelTest");
    }

    private void drawCalls() throws Exception {
        if (random.nextInt(8) > 0) {
            clear(2 + random.nextInt(6));
        }
        if (random.nextInt(3) == 0) {
            chooseLikeGraph();
        }
        boolean isSteady = random.nextBoolean();
        while (calls < CALLS) {
            String drawn = CALLS_DRAWN[random.nextInt(CALLS_DRAWN.length)];
            if (random.nextInt(200) == 0) {
                clear(random.nextInt(9));
            } else if (!isSteady || calls < 110 || !drawn.startsWith("setWeight")
                    || random.nextInt(8) == 0) {
                draw(drawn);
            }
        }
    }

    private void clear(int number) throws Exception {
        both("clear", number);
        if (number >= 2 && number <= 7) {
            places = number;
        }
    }

    /** A net that is drawn freely stands for the graph too seldom. */
    private void chooseLikeGraph() throws Exception {
        for (int one = 0; one < places; one++) {
            for (int other = one + 1; other < places; other++) {
                int weight = random.nextInt(5);
                both("setWeight", one, other, weight);
                both("choose", one, other, Math.max(0, weight * (1 + random.nextInt(2))
                        + (weight == 0 ? 0 : random.nextInt(2))));
            }
        }
        both("standsFor", 1);
        both("standsFor", 2);
        both("standsFor", 3);
    }

    private void draw(String call) throws Exception {
        String[] words = call.split(" ");
        Object[] arguments = new Object[words.length - 1];
        for (int number = 1; number < words.length; number++) {
            arguments[number - 1] = argument(words[number]);
        }
        both(words[0], arguments);
    }

    private Object argument(String word) {
        if (word.equals("b")) {
            return random.nextBoolean();
        }
        if (random.nextInt(60) == 0) {
            return WRONG[random.nextInt(WRONG.length)];
        }
        if (word.equals("p")) {
            return random.nextInt(30) == 0 ? places : random.nextInt(places);
        }
        int line = word.indexOf('-', 1);
        long least = Long.parseLong(word.substring(0, line));
        long most = Long.parseLong(word.substring(line + 1));
        if (most == 127 || most == 126) {
            most -= 128 - (1 << places);
        }
        if (random.nextInt(12) == 0) {
            return (int) (random.nextBoolean() ? least - random.nextInt(2) : most + random.nextInt(2));
        }
        return (int) (least + (random.nextLong() >>> 1) % (most - least + 1));
    }

    private void both(String name, Object... arguments) throws Exception {
        calls++;
        Class<?>[] types = new Class<?>[arguments.length];
        for (int number = 0; number < types.length; number++) {
            types[number] = arguments[number] instanceof Boolean ? boolean.class : int.class;
        }
        Object want = answer(PlainModel.class.getMethod(name, types), plain, arguments);
        Object got = answer(Sparsewalk.class.getMethod(name, types), real, arguments);
        checks.due(run + name + Arrays.toString(arguments), got, want);
    }

    private static Object answer(Method method, Object target, Object[] arguments)
            throws IllegalAccessException {
        try {
            return method.invoke(target, arguments);
        } catch (InvocationTargetException e) {
            if (e.getCause() instanceof Error) {
                throw (Error) e.getCause();
            }
            return "throws." + e.getCause().getClass().getSimpleName();
        }
    }
}
