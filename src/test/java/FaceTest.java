import java.lang.reflect.Constructor;
import java.lang.reflect.Field;
import java.lang.reflect.Method;
import java.lang.reflect.Modifier;
import java.nio.file.Files;
import java.nio.file.Path;
import java.util.ArrayList;
import java.util.Arrays;
import java.util.List;
import java.util.TreeSet;
import java.util.regex.Pattern;

/** The face is that of the document, and the file keeps to what can be seen of LANGUAGE.md. */
public final class FaceTest {
    private static final String BOUNDS = "IndexOutOfBoundsException";
    private static final String ARGUMENT = "IllegalArgumentException";
    private static final String OPERATION = "UnsupportedOperationException";
    private static final String ELEMENT = "NoSuchElementException";
    private static final String STATE = "IllegalStateException";

    private static final String[] FACE = {
        "int clear(int) " + ARGUMENT,
        "int setWeight(int,int,int) " + BOUNDS + " " + ARGUMENT,
        "int getWeight(int,int) " + BOUNDS + " " + ARGUMENT,
        "int undo() " + ELEMENT,
        "int getDegree(int) " + BOUNDS,
        "boolean isJoined()",
        "int getPair(int,int) " + BOUNDS + " " + ARGUMENT,
        "int makeRing(int) " + ARGUMENT,
        "long getTime(int,int,boolean) " + BOUNDS + " " + OPERATION,
        "long getReturn(int,boolean) " + BOUNDS + " " + OPERATION,
        "long getChance(int,int,int,boolean) " + BOUNDS + " " + ARGUMENT + " " + OPERATION,
        "long getEscape(int,int,boolean) " + BOUNDS + " " + ARGUMENT + " " + OPERATION,
        "long countWalks(int,int,int) " + BOUNDS + " " + ARGUMENT,
        "long getResistance(int,int,boolean) " + BOUNDS + " " + ARGUMENT + " " + OPERATION,
        "long countTrees()",
        "long countTreesWith(int,int) " + BOUNDS + " " + ARGUMENT,
        "long countForests(int) " + ARGUMENT,
        "int listTrees()",
        "int nextTree() " + STATE + " " + ELEMENT,
        "int drawTree(int) " + BOUNDS + " " + OPERATION,
        "int getDrawn() " + ELEMENT,
        "int seed(int) " + ARGUMENT,
        "int putWalker(boolean,int) " + BOUNDS,
        "int walk(int) " + ARGUMENT + " " + OPERATION,
        "int getWalker(boolean)",
        "int setChips(int,int) " + BOUNDS + " " + ARGUMENT,
        "int getChips(int) " + BOUNDS,
        "int setSink(int) " + BOUNDS,
        "int fire(int) " + BOUNDS + " " + OPERATION,
        "int settle() " + OPERATION,
        "char getState() " + OPERATION,
        "int countRecurrent() " + OPERATION,
        "int turn(int) " + ARGUMENT + " " + OPERATION,
        "int getRotor(int) " + BOUNDS + " " + ELEMENT,
        "int choose(int,int,int) " + BOUNDS + " " + ARGUMENT,
        "boolean standsFor(int) " + ARGUMENT,
        "int getCut(int) " + ARGUMENT,
        "int getShare(boolean) " + ELEMENT,
        "int getBest() " + ELEMENT,
        "int countAbove(int) " + ARGUMENT,
        "long getCoefficient(int) " + ARGUMENT,
        "float getMeanDegree()",
        "double getOhms(int,int) " + BOUNDS + " " + ARGUMENT + " " + OPERATION,
        "long checksum()",
        "boolean isSound()",
    };

    private static final String[] RULED_OUT = {
        "->", "::", "\\bfinally\\b", "\\bsynchronized\\b", "\\bassert\\b", "\\bcatch\\b",
        "\\btry\\b", "\\bNaN\\b", "Exact\\b", "\\bSystem\\.(?!arraycopy)", "\\bMath\\.(?!min|max|abs)",
        "\\bRandom\\b", "\\bThread\\b", "\\bhashCode\\b", "\\btoString\\b", "\\bpackage\\b",
        "\\bprotected\\b", "\\bObject\\b", "\\bvar\\b", "\\brecord\\b",
    };

    private FaceTest() {
    }

    public static void main(String[] args) throws Exception {
        Checks checks = new Checks();
        checkClass(checks);
        checkMethods(checks);
        checkNested(checks);
        checkSource(checks);
        checks.end("FaceTest");
    }

    private static void checkClass(Checks checks) {
        int modifiers = Sparsewalk.class.getModifiers();
        checks.due("public", Modifier.isPublic(modifiers), true);
        checks.due("final", Modifier.isFinal(modifiers), true);
        Constructor<?>[] made = Sparsewalk.class.getDeclaredConstructors();
        checks.due("constructors", made.length, 1);
        checks.due("a public constructor", Modifier.isPublic(made[0].getModifiers()), true);
        checks.due("its parameters", made[0].getParameterCount(), 0);
    }

    private static void checkMethods(Checks checks) {
        TreeSet<String> open = new TreeSet<>();
        TreeSet<String> openNames = new TreeSet<>();
        List<Method> hidden = new ArrayList<>();
        for (Method method : Sparsewalk.class.getDeclaredMethods()) {
            if (Modifier.isPrivate(method.getModifiers())) {
                hidden.add(method);
                continue;
            }
            checks.due(method + " is public", Modifier.isPublic(method.getModifiers()), true);
            open.add(written(method));
            openNames.add(method.getName());
        }
        checks.due("the face", open.toString(), new TreeSet<>(Arrays.asList(FACE)).toString());
        for (Class<?> type : Sparsewalk.class.getDeclaredClasses()) {
            hidden.addAll(Arrays.asList(type.getDeclaredMethods()));
        }
        for (Method method : hidden) {
            checks.due("a public name for " + method, openNames.contains(method.getName()), false);
        }
    }

    private static String written(Method method) {
        StringBuilder text = new StringBuilder();
        text.append(method.getReturnType()).append(' ').append(method.getName()).append('(');
        String comma = "";
        for (Class<?> type : method.getParameterTypes()) {
            text.append(comma).append(type);
            comma = ",";
        }
        text.append(')');
        for (Class<?> type : method.getExceptionTypes()) {
            text.append(' ').append(type.getSimpleName());
        }
        return text.toString();
    }

    private static void checkNested(Checks checks) {
        checkFields(checks, Sparsewalk.class);
        Class<?>[] nested = Sparsewalk.class.getDeclaredClasses();
        checks.due("few classes", nested.length < 12, true);
        for (Class<?> type : nested) {
            int modifiers = type.getModifiers();
            checks.due(type + " is static", Modifier.isStatic(modifiers), true);
            checks.due(type + " is public", Modifier.isPublic(modifiers), false);
            checkFields(checks, type);
            checkParameters(checks, type);
        }
    }

    private static void checkParameters(Checks checks, Class<?> type) {
        for (Method method : type.getDeclaredMethods()) {
            checks.due("few parameters of " + method, method.getParameterCount() <= 7, true);
        }
    }

    /** A method begins and ends at its own depth, so that its lines can be counted. */
    private static void checkLengths(Checks checks, String code) {
        String[] lines = code.split("\n");
        for (int first = 0; first < lines.length; first++) {
            String start = lines[first].replaceAll("\\S.*", "");
            boolean isMethod = (start.length() == 4 || start.length() == 8)
                    && lines[first].contains("(") && lines[first].endsWith("{")
                    && !lines[first].matches(" *(if|for|while|switch|do|else)\\b.*");
            int last = first;
            while (isMethod && last < lines.length && !lines[last].equals(start + "}")) {
                last++;
            }
            checks.due("a short method: " + lines[first], last - first <= 60, true);
        }
    }

    private static void checkFields(Checks checks, Class<?> type) {
        int own = 0;
        for (Field field : type.getDeclaredFields()) {
            int modifiers = field.getModifiers();
            checks.due(field + " is private", Modifier.isPrivate(modifiers), true);
            if (Modifier.isStatic(modifiers)) {
                checks.due(field + " is final", Modifier.isFinal(modifiers), true);
            } else {
                own++;
            }
        }
        checks.due("few fields of " + type, own <= 20, true);
    }

    private static void checkSource(Checks checks) throws Exception {
        String source = Files.readString(Path.of("src/main/java/Sparsewalk.java"));
        String code = source.replaceAll("(?s)/\\*.*?\\*/", "").replaceAll("//[^\n]*", "")
                .replaceAll("\"[^\"\n]*\"", "\"\"");
        for (String word : RULED_OUT) {
            checks.due("the code has " + word, Pattern.compile(word).matcher(code).find(), false);
        }
        checkLengths(checks, code);
        int imports = 0;
        for (String line : code.split("\n")) {
            if (line.startsWith("import ")) {
                imports++;
                checks.due("an import", line, "import java.util.NoSuchElementException;");
            }
        }
        checks.due("imports", imports, 1);
        for (char sign : source.toCharArray()) {
            if (sign > 126 || sign < 32 && sign != '\n') {
                checks.due("a sign of the source", (int) sign, "plain");
            }
        }
    }
}
