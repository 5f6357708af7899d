import java.util.ArrayList;
import java.util.List;

/** The terms "Graphs" and "Fractions", sentence by sentence. */
public final class GraphsTest {
    private final Checks checks = new Checks();

    private GraphsTest() {
    }

    public static void main(String[] args) {
        GraphsTest test = new GraphsTest();
        test.twoToSevenPlaces();
        test.newPlacesHaveNothing();
        test.weightsOfPairs();
        test.edgesAreAboveZero();
        test.numbersOfPairs();
        test.edgesAsBits();
        test.degreesAreSums();
        test.likeWeightsAreNoChange();
        test.lastChangeFirst();
        test.thirtyAtMost();
        test.takenBackAndToldAgain();
        test.takingBackTellsAnew();
        test.rings();
        test.ringsAreTakenBackByPairs();
        test.joined();
        test.clearForgetsAll();
        test.fractions();
        test.checks.end("GraphsTest");
    }

    private void due(String name, String... lines) {
        Runs.due(checks, name, lines);
    }

    private void twoToSevenPlaces() {
        due("4 at first", "getDegree(0) = 0; getDegree(3) = 0; getDegree(4) =", Runs.BOUNDS,
                "getDegree(-1) =", Runs.BOUNDS, "clear(2) = 4");
        for (int places = 2; places <= 7; places++) {
            due("numbered from 0", Nets.clear(places), "getDegree(0) = 0; getDegree(-1) =", Runs.BOUNDS,
                    "getDegree(" + (places - 1) + ") = 0; getDegree(" + places + ") =", Runs.BOUNDS,
                    "clear(1) =", Runs.ARGUMENT, "clear(8) =", Runs.ARGUMENT, "clear(0) =",
                    Runs.ARGUMENT, "clear(3) = " + places + "; clear(7) = 3; clear(2) = 7");
        }
    }

    private void newPlacesHaveNothing() {
        for (int places = 2; places <= 7; places++) {
            StringBuilder calls = new StringBuilder(Nets.full(7, 4) + Nets.allChosen(7, 12));
            for (int place = 0; place < 7; place++) {
                calls.append("setChips(").append(place).append(", 99); ");
            }
            calls.append("walk(7); turn(7); listTrees(); drawTree(0); ").append(Nets.clear(places));
            for (int one = 0; one < places; one++) {
                calls.append("getChips(").append(one).append(") = 0; getRotor(").append(one);
                calls.append(") = ").append(Runs.ELEMENT);
                for (int other = one + 1; other < places; other++) {
                    String pair = "(" + one + ", " + other;
                    String back = "(" + other + ", " + one;
                    calls.append("getWeight").append(pair).append(") = 0; ");
                    calls.append("getWeight").append(back).append(") = 0; ");
                    calls.append("choose").append(back).append(", 0) = 0; ");
                    calls.append("choose").append(pair).append(", 0) = 0; ");
                }
            }
            due("no weight, no chips and no choice at first", calls.toString(), "standsFor(1) = true");
        }
    }

    private void weightsOfPairs() {
        for (int weight = 0; weight <= 4; weight++) {
            due("0 to 4", "setWeight(2, 1, " + weight + ") = 0; getWeight(1, 2) = " + weight,
                    "; getWeight(2, 1) = " + weight, "; setWeight(1, 2, 4) = " + weight,
                    "; setWeight(1, 2, 5) =", Runs.ARGUMENT, "setWeight(1, 2, -1) =", Runs.ARGUMENT,
                    "getWeight(1, 2) = 4; getWeight(0, 1) = 0; getWeight(2, 3) = 0");
        }
        for (int places = 2; places <= 7; places++) {
            StringBuilder calls = new StringBuilder(Nets.full(places, 4));
            for (int one = 0; one < places; one++) {
                for (int other = 0; other < places; other++) {
                    calls.append("getWeight(").append(one).append(", ").append(other).append(") = ");
                    calls.append(one == other ? Runs.ARGUMENT : "4; ");
                }
            }
            due("each pair has one", calls.toString());
        }
    }

    private void edgesAreAboveZero() {
        due("a weight of 0 is no edge, one of 1 is", "clear(2) = 4; isJoined() = false;",
                "listTrees() = 0; countTrees() = 0; getRotor(0) =", Runs.ELEMENT,
                "setWeight(0, 1, 1) = 0; isJoined() = true; listTrees() = 1; countTrees() = 1;",
                "getRotor(0) = 1; getRotor(1) = 0; setWeight(0, 1, 0) = 1; isJoined() = false;",
                "listTrees() = 0; countTrees() = 0; getRotor(0) =", Runs.ELEMENT, "getRotor(1) =",
                Runs.ELEMENT);
    }

    private void numbersOfPairs() {
        for (int places = 2; places <= 7; places++) {
            StringBuilder calls = new StringBuilder(Nets.clear(places));
            int number = 0;
            for (int low = 0; low < places; low++) {
                for (int high = low + 1; high < places; high++) {
                    calls.append("getPair(").append(low).append(", ").append(high).append(") = ");
                    calls.append(number).append("; getPair(").append(high).append(", ").append(low);
                    calls.append(") = ").append(number).append("; ");
                    number++;
                }
            }
            due("by the lower place, then by the higher one", calls.toString());
        }
    }

    private void edgesAsBits() {
        for (int places = 2; places <= 7; places++) {
            for (int centre = 0; centre < places; centre++) {
                int bits = 0;
                for (int other = 0; other < places; other++) {
                    bits |= other == centre ? 0 : 1 << Nets.number(places, centre, other);
                }
                due("edges by their numbers", Nets.star(places, centre, 1), "listTrees() = 1;",
                        "nextTree() = " + bits, "; nextTree() =", Runs.ELEMENT, "drawTree(0);",
                        "getDrawn() = " + bits);
            }
        }
    }

    private void degreesAreSums() {
        for (int places = 2; places <= 7; places++) {
            int most = 4 * (places - 1);
            due("the most", Nets.full(places, 4), "getDegree(0) = " + most,
                    "; getDegree(" + (places - 1) + ") = " + most, "; setWeight(0, 1, 1) = 4;",
                    "getDegree(0) = " + (most - 3), "; getDegree(1) = " + (most - 3), "; undo();",
                    "getDegree(1) = " + most, "; clear(7) = " + places, "; getDegree(1) = 0");
        }
        due("all weights at it", "setWeight(0, 1, 1) = 0; setWeight(2, 1, 2) = 0; setWeight(1, 3, 4) = 0;",
                "setWeight(0, 3, 3) = 0; getDegree(0) = 4; getDegree(1) = 7; getDegree(2) = 2;",
                "getDegree(3) = 7");
    }

    private void likeWeightsAreNoChange() {
        due("a weight that becomes the same one", "setWeight(0, 1, 0) = 0; undo() =", Runs.ELEMENT,
                "setWeight(0, 1, 2) = 0; setWeight(0, 1, 2) = 2; setWeight(1, 0, 2) = 2; undo() = 0;",
                "getWeight(0, 1) = 0; undo() =", Runs.ELEMENT);
        due("and what is kept", "makeRing(2) = 4; turn(1) = 3; turn(1) = 2; getRotor(0) = 3;",
                "getRotor(3) = 2; seed(1); drawTree(0) = 7; getDrawn() = 37; listTrees() = 4;",
                "nextTree() = 13; setWeight(0, 1, 2) = 2; setWeight(0, 3, 2) = 2; setWeight(0, 2, 0) = 0;",
                "makeRing(2) = 0; getRotor(0) = 3; getRotor(3) = 2; getDrawn() = 37; nextTree() = 37;",
                "undo() = 3");
    }

    private void lastChangeFirst() {
        due("the last one first", "setWeight(0, 1, 1) = 0; setWeight(2, 3, 4) = 0;",
                "setWeight(0, 1, 3) = 1; setWeight(1, 2, 2) = 0; undo() = 3; getWeight(1, 2) = 0;",
                "getWeight(0, 1) = 3; undo() = 2; getWeight(0, 1) = 1; getWeight(2, 3) = 4; undo() = 1;",
                "getWeight(2, 3) = 0; getWeight(0, 1) = 1; undo() = 0; getWeight(0, 1) = 0; undo() =",
                Runs.ELEMENT, "getWeight(0, 1) = 0");
    }

    private void thirtyAtMost() {
        for (int count : new int[] {0, 1, 2, 28, 29, 30, 31, 32, 45, 59, 60, 61, 62, 90, 91, 150}) {
            List<Integer> weights = new ArrayList<>(List.of(0));
            StringBuilder calls = new StringBuilder();
            for (int change = 1; change <= count; change++) {
                int weight = (weights.get(change - 1) + 1 + change / 7 % 4) % 5;
                weights.add(weight);
                calls.append(Nets.weight(1, 3, weight));
            }
            for (int back = 1; back <= Math.min(count, 30); back++) {
                calls.append("undo() = ").append(Math.min(count, 30) - back);
                calls.append("; getWeight(1, 3) = ").append(weights.get(count - back)).append("; ");
            }
            due("30 at most, of " + count, calls.toString(), "undo() =", Runs.ELEMENT,
                    "getWeight(1, 3) = " + weights.get(Math.max(0, count - 30)));
        }
    }

    private void takenBackAndToldAgain() {
        int[][] plans = {{30, 10, 10}, {30, 30, 30}, {31, 1, 2}, {35, 3, 5}, {20, 20, 31}, {29, 1, 1}};
        for (int[] plan : plans) {
            List<Integer> weights = new ArrayList<>(List.of(0));
            StringBuilder calls = new StringBuilder();
            tell(calls, weights, plan[0]);
            int left = Math.min(30, plan[0]);
            takeBack(calls, weights, left, plan[1]);
            tell(calls, weights, plan[2]);
            left = Math.min(30, left - plan[1] + plan[2]);
            takeBack(calls, weights, left, left);
            due("what is taken back is no change", calls.toString(), "undo() =", Runs.ELEMENT);
        }
    }

    private static void tell(StringBuilder calls, List<Integer> weights, int count) {
        for (int change = 0; change < count; change++) {
            int weight = (weights.get(weights.size() - 1) + 1) % 5;
            weights.add(weight);
            calls.append(Nets.weight(0, 1, weight));
        }
    }

    private static void takeBack(StringBuilder calls, List<Integer> weights, int left, int count) {
        for (int back = 1; back <= count; back++) {
            weights.remove(weights.size() - 1);
            calls.append("undo() = ").append(left - back).append("; getWeight(0, 1) = ");
            calls.append(weights.get(weights.size() - 1)).append("; ");
        }
    }

    private void takingBackTellsAnew() {
        due("the list ends", "makeRing(1) = 4; listTrees() = 4; nextTree() = 13; undo() = 3; nextTree() =",
                Runs.STATE);
        due("the drawn tree goes with its edge", "clear(2) = 4; setWeight(0, 1, 1) = 0;",
                "setWeight(0, 1, 2) = 1; drawTree(0) = 1; getDrawn() = 1; undo() = 1; getDrawn() =",
                Runs.ELEMENT);
        due("the rotors of both places", "setWeight(0, 1, 1); setWeight(0, 2, 1); setWeight(0, 3, 1);",
                "setWeight(2, 3, 1) = 0; turn(1) = 2; turn(1) = 3; turn(1) = 2; getRotor(0) = 2;",
                "getRotor(2) = 3; getRotor(3) = 2; undo() = 3; getRotor(2) = 0; getRotor(3) = 0;",
                "getRotor(0) = 2; undo() = 2; getRotor(0) = 1; getRotor(3) =", Runs.ELEMENT);
        due("not the walkers, the chips and z", "makeRing(3) = 4; putWalker(true, 2) = 0; walk(1) = 1;",
                "setChips(1, 5) = 0; turn(1) = 3; undo() = 3; getChips(1) = 5; seed(4) = 182605794;",
                "turn(1) = 0; setWeight(1, 2, 0) = 3; undo() = 3; getChips(1) = 5; seed(1) = 4");
    }

    private void rings() {
        for (int places = 2; places <= 7; places++) {
            int edges = places == 2 ? 1 : places;
            StringBuilder weights = new StringBuilder();
            for (int one = 0; one < places; one++) {
                for (int other = one + 1; other < places; other++) {
                    boolean isNext = other == one + 1 || one == 0 && other == places - 1;
                    weights.append("getWeight(").append(one).append(", ").append(other);
                    weights.append(") = ").append(isNext ? 3 : 0).append("; ");
                }
            }
            due("a ring of all places", Nets.clear(places), "makeRing(3) = " + edges, "; ",
                    weights.toString(), "makeRing(3) = 0; undo() = " + (edges - 1),
                    "; makeRing(3) = 1; makeRing(2) = " + edges);
            due("other weights become 0", Nets.full(places, 3), "makeRing(3) = "
                    + (Nets.pairs(places) - edges), "; ", weights.toString());
            due("the last weights and the first that are none", Nets.clear(places), "makeRing(0) =",
                    Runs.ARGUMENT, "makeRing(5) =", Runs.ARGUMENT, "makeRing(1) = " + edges,
                    "; makeRing(4) = " + edges, "; getWeight(0, 1) = 4");
        }
    }

    private void ringsAreTakenBackByPairs() {
        due("each change by itself, by the numbers of pairs", "setWeight(1, 3, 2); setWeight(0, 2, 1);",
                "setWeight(0, 1, 3); makeRing(3) = 5; undo() = 7; getWeight(2, 3) = 0;",
                "getWeight(1, 3) = 0; undo() = 6; getWeight(1, 3) = 2; getWeight(1, 2) = 3; undo() = 5;",
                "getWeight(1, 2) = 0; getWeight(0, 3) = 3; undo() = 4; getWeight(0, 3) = 0;",
                "getWeight(0, 2) = 0; undo() = 3; getWeight(0, 2) = 1; getWeight(0, 1) = 3; undo() = 2;",
                "getWeight(0, 1) = 0");
        StringBuilder back = new StringBuilder();
        for (int left = 29; left >= 0; left--) {
            back.append("undo() = ").append(left).append("; ");
        }
        // There are 21 changes, then 14, so that the first 5 stay: those of the pairs from 0 to 4.
        due("a ring among 30 at most", Nets.full(7, 4), "makeRing(4) = 14;", back.toString(), "undo() =",
                Runs.ELEMENT, "getDegree(0) = 20; getDegree(1) = 4; getDegree(5) = 4; getDegree(6) = 0");
    }

    private void joined() {
        for (int places = 2; places <= 7; places++) {
            for (int cut = 0; cut + 1 < places; cut++) {
                due("a line, and without one edge", Nets.line(places, 1), "isJoined() = true;",
                        "setWeight(" + cut + ", " + (cut + 1) + ", 0) = 1; isJoined() = false;",
                        "undo(); isJoined() = true; undo(); isJoined() = false");
            }
            for (int alone = 0; alone < places; alone++) {
                StringBuilder calls = new StringBuilder(Nets.full(places, 1));
                for (int other = 0; other < places; other++) {
                    if (other != alone) {
                        calls.append("isJoined() = true; ").append(Nets.weight(alone, other, 0));
                    }
                }
                due("one place alone", calls.toString(), "isJoined() = false");
            }
        }
        due("two rings", "clear(6); setWeight(0, 2, 1); setWeight(2, 4, 1); setWeight(0, 4, 1);",
                "setWeight(1, 3, 4); setWeight(3, 5, 4); setWeight(1, 5, 4); isJoined() = false;",
                "setWeight(4, 5, 1) = 0; isJoined() = true; undo() = 6; isJoined() = false");
        due("a line in no order", "clear(7); setWeight(0, 6, 1); setWeight(6, 1, 1);",
                "setWeight(1, 5, 1); setWeight(5, 2, 1); setWeight(2, 4, 1); isJoined() = false;",
                "setWeight(4, 3, 1) = 0; isJoined() = true");
    }

    private void clearForgetsAll() {
        due("as at first, but z", "makeRing(2) = 4; putWalker(true, 3) = 0; putWalker(false, 2) = 0;",
                "setChips(1, 7) = 0; setSink(3) = 0; turn(1) = 3; choose(0, 1, 5) = 0; drawTree(0);",
                "seed(9); listTrees() = 4; clear(4) = 4; getWalker(true) = 0; getWalker(false) = 0;",
                "getChips(1) = 0; setSink(0) = 0; choose(0, 1, 0) = 0; undo() =", Runs.ELEMENT,
                "nextTree() =", Runs.STATE, "getDrawn() =", Runs.ELEMENT, "getRotor(0) =", Runs.ELEMENT,
                "isJoined() = false; getDegree(0) = 0; makeRing(1) = 4; getRotor(0) = 1; turn(1) = 3;",
                "seed(1) = 9");
        due("a clear that is refused", "makeRing(2) = 4; putWalker(true, 3) = 0; listTrees() = 4;",
                "clear(1) =", Runs.ARGUMENT, "clear(8) =", Runs.ARGUMENT, "nextTree() = 13;",
                "getWalker(true) = 3; undo() = 3");
    }

    private void fractions() {
        due("in lowest terms", Nets.line(4, 2), "getTime(0, 3, true) = 9; getTime(0, 3, false) = 1;",
                "getResistance(0, 3, true) = 3; getResistance(0, 3, false) = 2;",
                "getReturn(1, true) = 3; getReturn(1, false) = 1; getChance(1, 0, 3, true) = 2;",
                "getChance(1, 0, 3, false) = 3; getEscape(1, 3, true) = 1; getEscape(1, 3, false) = 4;",
                "getShare(true) = 1; getShare(false) = 3");
        due("0 is 0 by 1", Nets.line(4, 3), "getTime(2, 2, true) = 0; getTime(2, 2, false) = 1;",
                "getChance(3, 0, 3, true) = 0; getChance(3, 0, 3, false) = 1; getChance(3, 0, 2, true) = 0;",
                "getChance(3, 0, 2, false) = 1; setWeight(1, 2, 0) = 3; getShare(true) = 0;",
                "getShare(false) = 1");
        due("1 is 1 by 1", Nets.line(4, 3), "getTime(0, 1, true) = 1; getTime(0, 1, false) = 1;",
                "getChance(0, 0, 3, true) = 1; getChance(0, 0, 3, false) = 1; getEscape(0, 1, true) = 1;",
                "getEscape(0, 1, false) = 1; clear(2) = 4; makeRing(4) = 1; getShare(true) = 1;",
                "getShare(false) = 1");
    }
}
