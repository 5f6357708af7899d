/** Counts what is not as due, and ends a test's run by it. */
final class Checks {
    private static final int MOST_PRINTED = 50;

    private int checked;
    private int wrong;

    void due(String call, Object got, Object want) {
        checked++;
        if (!want.equals(got)) {
            wrong++;
            if (wrong <= MOST_PRINTED) {
                System.out.println(call + " answered " + got + ", due is " + want);
            }
        }
    }

    void add(Checks other) {
        checked += other.checked;
        wrong += other.wrong;
    }

    void end(String name) {
        System.out.println(name + ": " + checked + " checked, " + wrong + " wrong");
        if (wrong != 0 || checked == 0) {
            System.exit(1);
        }
    }
}
