/**
 * Each range behind the name of an argument: the first and the last number that are allowed, and
 * those beside them and far out that are not.
 */
public final class RangesTest {
    private final Checks checks = new Checks();

    private RangesTest() {
    }

    public static void main(String[] args) {
        RangesTest test = new RangesTest();
        for (int places = 2; places <= 7; places++) {
            test.numbers(places);
            test.bits(places);
            test.places(places);
            test.others(places);
        }
        test.checks.end("RangesTest");
    }

    /** The graph is joined and each call has what it needs, so that the number alone decides. */
    private static String setUp(int places) {
        return Nets.clear(places) + "makeRing(2); setChips(1, 50); drawTree(0); listTrees(); ";
    }

    private void numbers(int places) {
        range(places, "clear(#)", 2, 7);
        range(places, "setWeight(0, 1, #)", 0, 4);
        range(places, "setWeight(1, 0, #)", 0, 4);
        range(places, "makeRing(#)", 1, 4);
        range(places, "countWalks(0, 1, #)", 0, 40);
        range(places, "countWalks(1, 1, #)", 0, 40);
        range(places, "seed(#)", 1, 2147483646);
        range(places, "walk(#)", 1, 200);
        range(places, "setChips(0, #)", 0, 99);
        range(places, "setChips(1, #)", 0, 99);
        range(places, "turn(#)", 1, 200);
        range(places, "choose(0, 1, #)", 0, 12);
        range(places, "choose(1, 0, #)", 0, 12);
        range(places, "standsFor(#)", 1, 3);
        range(places, "countAbove(#)", -1, 60);
        range(places, "getCoefficient(#)", 0, places);
    }

    private void bits(int places) {
        int all = (1 << places) - 1;
        range(places, "countForests(#)", 1, all);
        range(places, "getCut(#)", 1, all - 1);
        for (int far = places; far < 32; far++) {
            refused(places, "countForests(#)", 1 << far | 1);
            refused(places, "getCut(#)", 1 << far | 1);
        }
    }

    private void range(int places, String call, int least, int most) {
        allowed(places, call, least);
        allowed(places, call, most);
        refused(places, call, least - 1);
        refused(places, call, most + 1);
        refused(places, call, Integer.MIN_VALUE);
        refused(places, call, Integer.MAX_VALUE);
    }

    private void allowed(int places, String call, int number) {
        String made = call.replace("#", Integer.toString(number));
        String got = Runs.last(setUp(places), made);
        checks.due("of " + places + " places " + made + " throws", got.startsWith("throws."), false);
    }

    private void refused(int places, String call, int number) {
        String made = call.replace("#", Integer.toString(number));
        Runs.due(checks, "of " + places + " places", setUp(places), made, "=", Runs.ARGUMENT);
    }

    private void places(int places) {
        String[] calls = {
            "getDegree(#)", "getTime(#, 0, true)", "getTime(#, 1, false)", "getTime(0, #, true)",
            "getTime(1, #, false)", "getReturn(#, true)", "getReturn(#, false)",
            "getChance(#, 0, 1, true)", "getChance(#, 1, 0, false)", "countWalks(#, 0, 3)",
            "countWalks(0, #, 3)", "drawTree(#)", "putWalker(true, #)", "putWalker(false, #)",
            "setChips(#, 9)", "getChips(#)", "setSink(#)", "getRotor(#)",
        };
        for (String call : calls) {
            allowed(places, call, 0);
            allowed(places, call, places - 1);
            noPlace(places, call, -1);
            noPlace(places, call, places);
            noPlace(places, call, 7);
            noPlace(places, call, Integer.MIN_VALUE);
            noPlace(places, call, Integer.MAX_VALUE);
        }
        noPlace(places, "fire(#)", -1);
        noPlace(places, "fire(#)", places);
        checks.due("the last place fires", Runs.last(setUp(places), "setSink(0); setChips(" +
                (places - 1) + ", 9); fire(" + (places - 1) + ")"), places == 2 ? "7" : "5");
        checks.due("the first place fires",
                Runs.last(setUp(places), "setSink(1); setChips(0, 9); fire(0)"), places == 2 ? "7" : "5");
    }

    /** Each call for two places: all pairs are allowed, the same one and no place are not. */
    private void others(int places) {
        String[] calls = {
            "setWeight(#, 3)", "getWeight(#)", "getPair(#)", "getChance(0, #, true)",
            "getChance(1, #, false)", "getEscape(#, true)", "getEscape(#, false)",
            "getResistance(#, true)", "getResistance(#, false)", "countTreesWith(#)", "choose(#, 5)",
            "getOhms(#)",
        };
        for (String call : calls) {
            for (int one = -1; one <= places; one++) {
                for (int other = -1; other <= places; other++) {
                    pair(places, call, one, other);
                }
            }
        }
    }

    private void pair(int places, String call, int one, int other) {
        String made = call.replace("#", one + ", " + other);
        if (Math.min(one, other) < 0 || Math.max(one, other) >= places) {
            Runs.due(checks, "no such place", setUp(places), made, "=", Runs.BOUNDS);
        } else if (one == other) {
            Runs.due(checks, "both are the same", setUp(places), made, "=", Runs.ARGUMENT);
        } else {
            String got = Runs.last(setUp(places), made);
            checks.due("of " + places + " places " + made + " throws", got.startsWith("throws."), false);
        }
    }

    private void noPlace(int places, String call, int place) {
        String made = call.replace("#", Integer.toString(place));
        Runs.due(checks, "of " + places + " places", setUp(places), made, "=", Runs.BOUNDS);
    }
}
