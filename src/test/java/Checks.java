import java.util.NoSuchElementException;

/** Counts what is not as due, and ends a test's run by it. */
final class Checks {
    interface Call {
        Object answer();
    }

    private int checked;
    private int wrong;

    void due(String call, Object got, Object want) {
        checked++;
        if (!want.equals(got)) {
            wrong++;
            if (wrong <= 50) {
                System.out.println(call + " answered " + got + ", due is " + want);
            }
        }
    }

    /** An exception's name counts as an answer, as the issues write it. */
    static Object answerOf(Call call) {
        try {
            return call.answer();
        } catch (IndexOutOfBoundsException | IllegalArgumentException | IllegalStateException
                | UnsupportedOperationException | NoSuchElementException | ArithmeticException
                | NullPointerException | ClassCastException e) {
            return "throws." + e.getClass().getSimpleName();
        }
    }

    void add(Checks other) {
        checked += other.checked;
        wrong += other.wrong;
    }

    void end(String name) {
        System.out.println(name + ": " + checked + " checked, " + wrong + " wrong");
        if (wrong != 0 || checked == 0) {
            System.exit(1);
        }
    }
}
