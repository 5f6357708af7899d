import java.util.Arrays;

/** The terms "Few edges", "Cuts" and "Values", and the sums, sentence by sentence. */
public final class CutsTest {
    private static final String TRIANGLE = "clear(3); makeRing(1); ";
    private static final String LINE = Nets.line(4, 1);

    private final Checks checks = new Checks();

    private CutsTest() {
    }

    public static void main(String[] args) {
        CutsTest test = new CutsTest();
        test.noneAreChosenAtFirst();
        test.weightsOfChosenPairs();
        test.factorsOfOneEdge();
        test.factorsOfNets();
        test.netsThatCannotStand();
        test.cutsAsBits();
        test.worthsOfCuts();
        test.shares();
        test.leastBitsOfSeveral();
        test.cutsWithoutDegrees();
        test.valuesAboveANumber();
        test.valuesBesideANumber();
        test.coefficients();
        test.meanDegrees();
        test.checksums();
        test.soundness();
        test.checks.end("CutsTest");
    }

    private void due(String name, String... lines) {
        Runs.due(checks, name, lines);
    }

    private void noneAreChosenAtFirst() {
        for (int places = 2; places <= 7; places++) {
            for (int one = 0; one < places; one++) {
                for (int other = 0; other < places; other++) {
                    String pair = "choose(" + one + ", " + other;
                    String back = "choose(" + other + ", " + one;
                    if (one != other) {
                        due("1 to 12, 0 for not", Nets.clear(places), pair, ", 0) = 0;", pair, ", 1) = 0;",
                                back, ", 12) = 1;", pair, ", 13) =", Runs.ARGUMENT, back, ", -1) =",
                                Runs.ARGUMENT, back, ", 0) = 12;", pair, ", 0) = 0");
                    }
                }
            }
        }
    }

    private void weightsOfChosenPairs() {
        due("a weight of its own", "choose(0, 1, 7) = 0; setWeight(0, 1, 4) = 0; getWeight(0, 1) = 4;",
                "choose(0, 1, 7) = 7; setWeight(0, 1, 0) = 4; choose(1, 0, 7) = 7; undo() = 1;",
                "makeRing(2); choose(0, 1, 0) = 7; choose(0, 1, 3) = 0; getWeight(0, 1) = 2;",
                "getDegree(0) = 4; choose(0, 2, 5) = 0; getWeight(0, 2) = 0; countTrees() = 32");
        due("each pair for itself", "choose(0, 1, 1); choose(2, 3, 2); choose(1, 2, 3);",
                "choose(2, 3, 0) = 2; choose(0, 1, 0) = 1; choose(1, 2, 0) = 3; choose(0, 3, 0) = 0");
        due("a new graph", "choose(0, 1, 7) = 0; clear(4) = 4; choose(0, 1, 0) = 0; clear(7); ",
                Nets.allChosen(7, 12), "clear(3); choose(1, 2, 0) = 0; clear(7); choose(5, 6, 0) = 0");
    }

    /** Both sides of "at most": a weight for itself, and so many times as much. */
    private void factorsOfOneEdge() {
        for (int places = 2; places <= 7; places++) {
            for (int weight = 1; weight <= 4; weight++) {
                for (int chosen = 0; chosen <= 12; chosen++) {
                    StringBuilder calls = new StringBuilder(Nets.clear(places));
                    calls.append(Nets.weight(0, places - 1, weight));
                    calls.append(Nets.chosen(0, places - 1, chosen));
                    for (int factor = 1; factor <= 3; factor++) {
                        boolean stands = chosen <= factor * weight && weight <= factor * chosen;
                        calls.append("standsFor(").append(factor).append(") = ").append(stands).append("; ");
                    }
                    due("one edge", calls.toString(), "standsFor(0) =", Runs.ARGUMENT, "standsFor(4) =",
                            Runs.ARGUMENT);
                }
            }
        }
    }

    private void factorsOfNets() {
        for (int places = 2; places <= 7; places++) {
            for (int factor = 1; factor <= 3; factor++) {
                String like = Nets.full(places, 4) + Nets.allChosen(places, 4 * factor);
                due("as much as the factor", like, "standsFor(" + factor + ") = true; standsFor(3) = true");
                if (factor > 1) {
                    due("more than the factor", like, "standsFor(" + (factor - 1) + ") = false");
                    due("the graph has as much as the factor", Nets.full(places, factor),
                            Nets.allChosen(places, 1), "standsFor(" + factor + ") = true;",
                            "standsFor(" + (factor - 1) + ") = false");
                }
            }
        }
        // For a triangle, whose values are 0, 3 and 3, a line with values 0, a and 3 a.
        due("a line for a triangle", TRIANGLE, "choose(0, 1, 1); choose(1, 2, 1); standsFor(1) = false;",
                "standsFor(2) = false; standsFor(3) = true; choose(0, 1, 2); choose(1, 2, 2);",
                "standsFor(1) = false; standsFor(2) = true; choose(0, 1, 3); choose(1, 2, 3);",
                "standsFor(2) = false; standsFor(3) = true; choose(0, 1, 4); standsFor(3) = false");
        // A star for all edges of 4 places has values 0, a, a and 4 a, where they have 4.
        due("a star for all", Nets.full(4, 1), "choose(0, 1, 2); choose(0, 2, 2); choose(0, 3, 2);",
                "standsFor(1) = false; standsFor(2) = true; choose(0, 3, 1) = 2; standsFor(2) = false;",
                "standsFor(3) = false; choose(0, 3, 3); choose(0, 2, 3); choose(0, 1, 3);",
                "standsFor(2) = false; standsFor(3) = true; choose(0, 1, 4); standsFor(3) = false");
    }

    private void netsThatCannotStand() {
        due("no edge and none chosen", "standsFor(1) = true; standsFor(2) = true; standsFor(3) = true;",
                "clear(7); standsFor(1) = true; clear(2); standsFor(3) = true");
        due("one side alone", "choose(0, 1, 1); standsFor(3) = false; choose(0, 1, 0);",
                "setWeight(0, 1, 1); standsFor(3) = false; choose(2, 3, 1); standsFor(3) = false;",
                "choose(0, 1, 1); standsFor(3) = false; choose(2, 3, 0); standsFor(1) = true");
        due("parts that are joined in the graph alone", LINE, "choose(0, 1, 1); choose(2, 3, 1);",
                "standsFor(3) = false; choose(1, 2, 1); standsFor(1) = true");
        due("parts that are joined in the net alone", LINE, "setWeight(1, 2, 0); choose(0, 1, 1);",
                "choose(2, 3, 1); standsFor(1) = true; choose(1, 2, 1); standsFor(3) = false;",
                "choose(1, 2, 0); standsFor(1) = true");
    }

    private void cutsAsBits() {
        for (int places = 2; places <= 7; places++) {
            int all = (1 << places) - 1;
            due("neither none nor all", Nets.full(places, 2), "getCut(0) =", Runs.ARGUMENT,
                    "getCut(1) = " + 2 * (places - 1), "; getCut(" + (all - 1) + ") = " + 2 * (places - 1),
                    "; getCut(" + all + ") =", Runs.ARGUMENT, "getCut(" + (all + 1) + ") =", Runs.ARGUMENT,
                    "getCut(" + (all + 2) + ") =", Runs.ARGUMENT, "getCut(-1) =", Runs.ARGUMENT);
            StringBuilder calls = new StringBuilder(Nets.full(places, 4));
            for (int cut = 1; cut < all; cut++) {
                int inside = Integer.bitCount(cut);
                calls.append("getCut(").append(cut).append(") = ");
                calls.append(4 * inside * (places - inside)).append("; ");
            }
            due("if all are neighbours", calls.toString());
        }
    }

    private void worthsOfCuts() {
        due("weights between it and the others", "clear(4); setWeight(0, 1, 3); setWeight(2, 3, 2);",
                "setWeight(0, 3, 1); getCut(1) = 4; getCut(2) = 3; getCut(3) = 1; getCut(4) = 2;",
                "getCut(5) = 6; getCut(6) = 5; getCut(7) = 3; getCut(8) = 3; getCut(12) = 1;",
                "getCut(14) = 4; setWeight(0, 3, 0); getCut(3) = 0; getCut(1) = 3");
        due("no edges", "getCut(1) = 0; getCut(14) = 0; getCut(7) = 0");
    }

    private void shares() {
        due("of a line", LINE, "getShare(true) = 1; getShare(false) = 3; getBest() = 3");
        due("by the side that has less", "clear(4); setWeight(0, 1, 4); setWeight(1, 2, 1);",
                "setWeight(2, 3, 1); getBest() = 3; getShare(true) = 1; getShare(false) = 3;",
                "setWeight(2, 3, 4); getShare(true) = 1; getShare(false) = 9; setWeight(1, 2, 4);",
                "getShare(true) = 1; getShare(false) = 3");
        due("in lowest terms", "clear(4); makeRing(2); getShare(true) = 1; getShare(false) = 2;",
                "getBest() = 3");
        for (int places = 2; places <= 7; places++) {
            int half = places / 2;
            // Half of the places have half k (n - half) edges of half k (n - 1).
            Ratio share = Ratio.of(places - half, places - 1);
            due("if all are neighbours", Nets.full(places, 3), "getBest() = " + ((1 << half) - 1),
                    "; getShare(true) = " + share.part(true), "; getShare(false) = " + share.part(false));
        }
    }

    private void leastBitsOfSeveral() {
        due("a ring", "clear(4); makeRing(1); getBest() = 3; clear(6); makeRing(4); getBest() = 7;",
                "clear(2); makeRing(1); getBest() = 1; clear(3); makeRing(1); getBest() = 1");
        due("a cut and the others", LINE, "getBest() = 3; getCut(3) = 1; getCut(12) = 1");
        due("parts", "clear(6); setWeight(0, 5, 1); setWeight(1, 4, 1); setWeight(2, 3, 1);",
                "getBest() = 12; getShare(true) = 0; getShare(false) = 1; setWeight(2, 4, 1);",
                "getBest() = 30; getShare(true) = 0; setWeight(0, 5, 0); getShare(true) = 1;",
                "getShare(false) = 3; getBest() = 12");
        due("a place without an edge may stand on either side", "clear(4); setWeight(1, 3, 2);",
                "getBest() = 2; getShare(true) = 1; getShare(false) = 1; setWeight(0, 2, 1);",
                "getBest() = 5; getShare(true) = 0; getShare(false) = 1");
    }

    private void cutsWithoutDegrees() {
        for (int places = 2; places <= 7; places++) {
            due("none", Nets.clear(places), "getBest() =", Runs.ELEMENT, "getShare(true) =", Runs.ELEMENT,
                    "getShare(false) =", Runs.ELEMENT, "setWeight(0, 1, 1); getBest() = 1;",
                    "getShare(true) = 1; getShare(false) = 1; setWeight(0, 1, 0); getBest() =",
                    Runs.ELEMENT, Nets.weight(places - 2, places - 1, 4),
                    "getBest() = " + (1 << places - 2), "; getShare(true) = 1; getShare(false) = 1; undo();",
                    "getShare(false) =", Runs.ELEMENT, "getBest() =", Runs.ELEMENT);
        }
        due("of either side", "clear(5); setWeight(2, 4, 1); getBest() = 4; getShare(true) = 1;",
                "getCut(3) = 0; getCut(20) = 0; getCut(4) = 1; getCut(16) = 1");
    }

    private void valuesAboveANumber() {
        for (int places = 2; places <= 7; places++) {
            for (int weight = 1; weight <= 4; weight++) {
                int value = places * weight;
                due("a value itself is not above", Nets.full(places, weight),
                        "countAbove(-1) = " + places, "; countAbove(0) = " + (places - 1),
                        "; countAbove(" + (value - 1) + ") = " + (places - 1),
                        "; countAbove(" + value + ") = 0; countAbove(60) = 0; countAbove(61) =",
                        Runs.ARGUMENT, "countAbove(-2) =", Runs.ARGUMENT);
            }
            StringBuilder star = new StringBuilder(Nets.star(places, 0, 2));
            star.append("countAbove(0) = ").append(places - 1).append("; countAbove(1) = ");
            star.append(places - 1).append("; countAbove(2) = 1; ");
            due("a star has 0, its weight and so many times that", star.toString(),
                    "countAbove(" + (2 * places - 1) + ") = 1; countAbove(" + 2 * places + ") = 0");
            due("no edges have 0 alone", Nets.clear(places), "countAbove(-1) = " + places,
                    "; countAbove(0) = 0; countAbove(60) = 0");
        }
        due("0 as often as parts", "clear(6); setWeight(0, 5, 1); setWeight(1, 4, 1); countAbove(0) = 2;",
                "setWeight(2, 3, 4); countAbove(0) = 3; countAbove(1) = 3; countAbove(2) = 1;",
                "countAbove(7) = 1; countAbove(8) = 0; setWeight(0, 1, 1); countAbove(0) = 4");
    }

    /** A line of weights 1 has the values 2 - 2 cos(k pi / n). */
    private void valuesBesideANumber() {
        for (int places = 2; places <= 7; places++) {
            StringBuilder calls = new StringBuilder(Nets.line(places, 1));
            for (int number = -1; number <= 4; number++) {
                int count = 0;
                for (int value = 0; value < places; value++) {
                    count += 2 - 2 * Math.cos(value * Math.PI / places) > number + 1e-9 ? 1 : 0;
                }
                calls.append("countAbove(").append(number).append(") = ").append(count).append("; ");
            }
            due("a line", calls.toString());
            StringBuilder ring = new StringBuilder(Nets.clear(places)).append("makeRing(4); ");
            for (int number = -1; number <= 17 && places > 2; number++) {
                int count = 0;
                for (int value = 0; value < places; value++) {
                    count += 8 - 8 * Math.cos(2 * value * Math.PI / places) > number + 1e-9 ? 1 : 0;
                }
                ring.append("countAbove(").append(number).append(") = ").append(count).append("; ");
            }
            due("a ring", ring.toString());
        }
    }

    private void coefficients() {
        for (int places = 2; places <= 7; places++) {
            for (int weight = 0; weight <= 4; weight++) {
                // The product of x and of x less n w, as often as there are other places.
                long[] product = new long[places + 1];
                product[1] = 1;
                for (int factor = 1; factor < places; factor++) {
                    for (int power = places; power > 0; power--) {
                        product[power] = product[power - 1] - places * weight * product[power];
                    }
                }
                StringBuilder calls = new StringBuilder(Nets.full(places, weight));
                for (int power = 0; power <= places; power++) {
                    calls.append("getCoefficient(").append(power).append(") = ");
                    calls.append(product[power]).append("; ");
                }
                due("if all are neighbours", calls.toString(), "getCoefficient(-1) =", Runs.ARGUMENT,
                        "getCoefficient(" + (places + 1) + ") =", Runs.ARGUMENT);
            }
        }
        due("by powers of x", LINE, "getCoefficient(0) = 0; getCoefficient(1) = -4;",
                "getCoefficient(2) = 10; getCoefficient(3) = -6; getCoefficient(4) = 1;",
                "setWeight(1, 2, 0); getCoefficient(1) = 0; getCoefficient(2) = 4;",
                "getCoefficient(3) = -4; undo(); getCoefficient(1) = -4");
    }

    private void meanDegrees() {
        for (int places = 2; places <= 7; places++) {
            for (int weight = 0; weight <= 4; weight++) {
                float one = 2 * weight / (float) places;
                due("one edge", Nets.clear(places), Nets.weight(0, places - 1, weight),
                        "getMeanDegree() = " + one);
                due("if all are neighbours", Nets.full(places, weight),
                        "getMeanDegree() = " + (float) (weight * (places - 1)));
            }
        }
        due("some", "getMeanDegree() = 0.0; clear(3); setWeight(0, 1, 1); getMeanDegree() = 0.6666667;",
                "clear(7); setWeight(5, 6, 3); getMeanDegree() = 0.85714287");
    }

    private static long sumOf(int... numbers) {
        return Arrays.stream(numbers).asLongStream().reduce(7, (sum, number) -> 31 * sum + number);
    }

    private void checksums() {
        due("a new object", "checksum() = " + sumOf(0, 0, 0, 0, 0, 0, 0, 0, 0, 0, 0, 0, 0, 1),
                "; seed(31) = 1; checksum() = " + sumOf(0, 0, 0, 0, 0, 0, 0, 0, 0, 0, 0, 0, 0, 31));
        due("each pair and each place", "clear(3); setWeight(0, 1, 1); setWeight(0, 2, 2);",
                "setWeight(1, 2, 3); setChips(0, 9); setChips(1, 8); setChips(2, 99); turn(1) = 2;",
                "putWalker(true, 1); putWalker(false, 2); seed(77); checksum() = "
                + sumOf(1, 2, 3, 9, 8, 99, 1, 2, 2, 77), "; putWalker(true, 0); turn(1) = 1; checksum() = "
                + sumOf(1, 2, 3, 9, 8, 99, 0, 2, 1, 77), "; putWalker(false, 0); turn(1) = 2;",
                "undo(); checksum() = " + sumOf(1, 2, 0, 9, 8, 99, 0, 0, 2, 77));
        due("not the sink, the choices, the rotors and the trees", "clear(2); makeRing(4); checksum() = "
                + sumOf(4, 0, 0, 0, 0, 0, 1), "; setSink(1); choose(0, 1, 5); listTrees(); nextTree();",
                "checksum() = " + sumOf(4, 0, 0, 0, 0, 0, 1), "; drawTree(1); checksum() = "
                + sumOf(4, 0, 0, 0, 0, 0, 48271));
        for (int places = 2; places <= 7; places++) {
            int pairs = Nets.pairs(places);
            int[] numbers = new int[pairs + places + 4];
            Arrays.fill(numbers, 0, pairs, 4);
            numbers[pairs + places - 1] = 99;
            numbers[pairs + places + 3] = 2147483646;
            due("so many pairs and places", Nets.full(places, 4), "setChips(" + (places - 1) + ", 99);",
                    "seed(2147483646); checksum() = " + sumOf(numbers));
        }
    }

    private void soundness() {
        due("no edges", "isSound() = true; clear(2); isSound() = true; clear(7); isSound() = true");
        for (int places = 2; places <= 7; places++) {
            for (int weight = 1; weight <= 4; weight++) {
                due("joined and not", Nets.full(places, weight), "drawTree(1); isSound() = true;",
                        "makeRing(1); isSound() = true; drawTree(0); isSound() = true;",
                        "setWeight(0, 1, 0); isSound() = true; undo(); isSound() = true;",
                        "listTrees(); nextTree(); isSound() = true; nextTree()");
            }
        }
        int[][] just = {{0, 1}, {0, 2}, {0, 4}, {0, 5}, {1, 3}, {1, 4}, {1, 5}, {2, 3}, {2, 4}, {2, 5},
            {4, 5}};
        int[][] more = {{0, 4}, {0, 5}, {0, 6}, {1, 2}, {1, 3}, {1, 4}, {1, 6}, {2, 5}, {3, 4}, {3, 5},
            {3, 6}};
        due("200 trees", edges(6, just), "listTrees() = 200; isSound() = true");
        due("more than 200 trees", edges(7, more), "listTrees() = 204; isSound() = true");
    }

    private static String edges(int places, int[][] ends) {
        StringBuilder calls = new StringBuilder(Nets.clear(places));
        for (int edge = 0; edge < ends.length; edge++) {
            calls.append(Nets.weight(ends[edge][0], ends[edge][1], 1 + edge % 4));
        }
        return calls.toString();
    }
}
