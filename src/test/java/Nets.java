/** Graphs that many tests need, as calls for a run. */
final class Nets {
    private Nets() {
    }

    static int pairs(int places) {
        return places * (places - 1) / 2;
    }

    static String clear(int places) {
        return "clear(" + places + "); ";
    }

    static String weight(int one, int other, int weight) {
        return "setWeight(" + one + ", " + other + ", " + weight + "); ";
    }

    static String chosen(int one, int other, int weight) {
        return "choose(" + one + ", " + other + ", " + weight + "); ";
    }

    /** All pairs of a new graph have the weight. */
    static String full(int places, int weight) {
        StringBuilder calls = new StringBuilder(clear(places));
        for (int one = 0; one < places; one++) {
            for (int other = one + 1; other < places; other++) {
                calls.append(weight(one, other, weight));
            }
        }
        return calls.toString();
    }

    /** Each place of a new graph is a neighbour of the next one. */
    static String line(int places, int weight) {
        StringBuilder calls = new StringBuilder(clear(places));
        for (int one = 0; one + 1 < places; one++) {
            calls.append(weight(one, one + 1, weight));
        }
        return calls.toString();
    }

    /** Each place of a new graph is a neighbour of one alone. */
    static String star(int places, int centre, int weight) {
        StringBuilder calls = new StringBuilder(clear(places));
        for (int other = 0; other < places; other++) {
            if (other != centre) {
                calls.append(weight(centre, other, weight));
            }
        }
        return calls.toString();
    }

    static String allChosen(int places, int weight) {
        StringBuilder calls = new StringBuilder();
        for (int one = 0; one < places; one++) {
            for (int other = one + 1; other < places; other++) {
                calls.append(chosen(one, other, weight));
            }
        }
        return calls.toString();
    }

    /** The number of a pair by counting those ahead of it. */
    static int number(int places, int one, int other) {
        int number = 0;
        for (int low = 0; low < places; low++) {
            for (int high = low + 1; high < places; high++) {
                if (low == Math.min(one, other) && high == Math.max(one, other)) {
                    return number;
                }
                number++;
            }
        }
        throw new IllegalArgumentException("no pair " + one + " " + other);
    }
}
