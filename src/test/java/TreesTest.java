/** The terms "Trees" and "Walkers", sentence by sentence. */
public final class TreesTest {
    private static final String TRIANGLE = "clear(3); makeRing(1); ";

    private final Checks checks = new Checks();

    private TreesTest() {
    }

    public static void main(String[] args) {
        TreesTest test = new TreesTest();
        test.treesByWorths();
        test.treesWithAnEdge();
        test.forestsByRoots();
        test.forestsOfGraphsThatAreNotJoined();
        test.treesInRisingOrder();
        test.listsThatEnd();
        test.listOfTheGraphAsItWas();
        test.draws();
        test.stepsByRemainders();
        test.treesFromARoot();
        test.waysByLastSteps();
        test.drawnTreeIsKept();
        test.drawnTreeIsDropped();
        test.walkersAtFirst();
        test.walkersMeet();
        test.walkersPassBy();
        test.stepsAtMost();
        test.walkersWithoutANeighbour();
        test.checks.end("TreesTest");
    }

    private void due(String name, String... lines) {
        Runs.due(checks, name, lines);
    }

    private static long power(long base, int exponent) {
        long product = 1;
        for (int factor = 0; factor < exponent; factor++) {
            product *= base;
        }
        return product;
    }

    private static long nextZ(long z) {
        return z * 48271 % 2147483647;
    }

    private void treesByWorths() {
        for (int places = 2; places <= 7; places++) {
            for (int weight = 1; weight <= 4; weight++) {
                long worth = power(weight, places - 1);
                due("a line has one tree", Nets.line(places, weight), "countTrees() = " + worth,
                        "; listTrees() = 1");
                due("a ring has as many as edges", Nets.clear(places), "makeRing(" + weight + ");",
                        "countTrees() = " + (places == 2 ? 1 : places) * worth,
                        "; listTrees() = " + (places == 2 ? 1 : places));
                long full = places == 2 ? 1 : power(places, places - 2);
                due("if all are neighbours", Nets.full(places, weight), "countTrees() = " + full * worth,
                        "; listTrees() = " + full);
            }
            due("0 if it is not joined", Nets.clear(places), "countTrees() = 0; listTrees() = 0;",
                    Nets.line(places, 4), "setWeight(0, 1, 0) = 4; countTrees() = 0; listTrees() = 0");
        }
        due("the product of the weights", "clear(4); setWeight(0, 1, 2); setWeight(1, 2, 3);",
                "setWeight(1, 3, 4); countTrees() = 24; setWeight(2, 3, 1); countTrees() = 38;",
                "listTrees() = 3");
    }

    private void treesWithAnEdge() {
        for (int places = 2; places <= 7; places++) {
            for (int weight = 1; weight <= 4; weight++) {
                long full = places == 2 ? weight
                        : 2 * power(places, places - 3) * power(weight, places - 1);
                due("if all are neighbours", Nets.full(places, weight), "countTreesWith(0, 1) = " + full,
                        "; countTreesWith(1, 0) = " + full,
                        "; countTreesWith(" + (places - 1) + ", 0) = " + full);
            }
        }
        due("0 if it is no edge", Nets.line(4, 2), "countTreesWith(0, 2) = 0; countTreesWith(0, 1) = 8;",
                "setWeight(0, 2, 1) = 0; countTreesWith(0, 2) = 8; countTreesWith(0, 1) = 12;",
                "countTreesWith(2, 3) = 16; countTrees() = 16; setWeight(2, 3, 0) = 2;",
                "countTreesWith(0, 1) = 0; countTreesWith(2, 3) = 0");
        due("0 if the graph has no tree", "setWeight(0, 1, 4) = 0; countTreesWith(0, 1) = 0;",
                "countTreesWith(1, 1) =", Runs.ARGUMENT, "countTreesWith(0, 4) =", Runs.BOUNDS);
    }

    private void forestsByRoots() {
        for (int places = 2; places <= 7; places++) {
            int all = (1 << places) - 1;
            StringBuilder calls = new StringBuilder(Nets.full(places, 3));
            for (int roots = 1; roots <= all; roots += 1 + roots / 9) {
                int count = Integer.bitCount(roots);
                long forests = count == places ? 1 : count * power(places, places - count - 1);
                calls.append("countForests(").append(roots).append(") = ");
                calls.append(forests * power(3, places - count)).append("; ");
            }
            due("if all are neighbours", calls.toString(), "countForests(" + all + ") = 1;",
                    "countForests(0) =", Runs.ARGUMENT, "countForests(" + (all + 1) + ") =",
                    Runs.ARGUMENT);
        }
        due("one root is a tree", Nets.line(4, 2), "countForests(1) = 8; countForests(2) = 8;",
                "countForests(4) = 8; countForests(8) = 8");
        due("each place is joined to one root", Nets.line(4, 2), "countForests(9) = 12;",
                "countForests(3) = 4; countForests(5) = 8; countForests(11) = 4; countForests(15) = 1");
    }

    private void forestsOfGraphsThatAreNotJoined() {
        for (int places = 2; places <= 7; places++) {
            int all = (1 << places) - 1;
            due("no edges", Nets.clear(places), "countForests(" + all + ") = 1;",
                    "countForests(" + (all - 1) + ") = 0; countForests(1) = 0;",
                    "setWeight(0, 1, 3); countForests(" + (all - 1) + ") = 3;",
                    "countForests(" + (all - 2) + ") = 3; countForests(" + all + ") = 1");
        }
        due("two parts", "clear(6); setWeight(0, 2, 1); setWeight(2, 4, 1); setWeight(0, 4, 1);",
                "setWeight(1, 3, 2); setWeight(3, 5, 2); countForests(1) = 0; countForests(5) = 0;",
                "countForests(3) = 12; countForests(2) = 0; countForests(34) = 0;",
                "countForests(35) = 12; countForests(7) = 8");
    }

    private void treesInRisingOrder() {
        due("rising bits", "clear(4); setWeight(2, 3, 1); setWeight(0, 3, 4); setWeight(1, 2, 2);",
                "setWeight(0, 2, 3); listTrees() = 3; nextTree() = 14; nextTree() = 42; nextTree() = 44;",
                "nextTree() =", Runs.ELEMENT);
        for (int places = 3; places <= 5; places++) {
            Sparsewalk walk = new Sparsewalk();
            for (String call : Nets.full(places, 2).split("; ")) {
                Runs.answer(walk, call);
            }
            int count = walk.listTrees();
            int before = 0;
            for (int tree = 0; tree < count; tree++) {
                int next = walk.nextTree();
                checks.due("a tree more", next > before, true);
                checks.due("edges of a tree", Integer.bitCount(next), places - 1);
                before = next;
            }
            checks.due("none is left", Runs.answer(walk, "nextTree()"), "throws.NoSuchElementException");
        }
    }

    private void listsThatEnd() {
        due("no list was begun", "nextTree() =", Runs.STATE, TRIANGLE, "nextTree() =", Runs.STATE,
                "listTrees() = 3; nextTree() = 3");
        due("the last one and none", TRIANGLE, "listTrees() = 3; nextTree() = 3; nextTree() = 5;",
                "nextTree() = 6; nextTree() =", Runs.ELEMENT, "nextTree() =", Runs.ELEMENT,
                "listTrees() = 3; nextTree() = 3; listTrees() = 3; nextTree() = 3; nextTree() = 5");
        due("no tree at all", Nets.clear(7), "listTrees() = 0; nextTree() =", Runs.ELEMENT);
        due("one tree", "clear(2); makeRing(4); listTrees() = 1; nextTree() = 1; nextTree() =",
                Runs.ELEMENT);
    }

    private void listOfTheGraphAsItWas() {
        String begun = TRIANGLE + "listTrees() = 3; nextTree() = 3; ";
        due("a weight changed", begun, "setWeight(0, 1, 2) = 1; nextTree() =", Runs.STATE,
                "setWeight(0, 1, 1) = 2; nextTree() =", Runs.STATE, "listTrees() = 3; nextTree() = 3");
        due("no weight changed", begun, "setWeight(0, 1, 1) = 1; makeRing(1) = 0; nextTree() = 5");
        due("a weight was taken back", begun, "undo() = 2; nextTree() =", Runs.STATE);
        due("nothing could be taken back", "listTrees() = 0; undo() =", Runs.ELEMENT, "nextTree() =",
                Runs.ELEMENT);
        due("a ring changed", begun, "makeRing(2) = 3; nextTree() =", Runs.STATE);
        due("a graph was told anew", begun, "clear(3) = 3; nextTree() =", Runs.STATE, "listTrees() = 0;",
                "nextTree() =", Runs.ELEMENT);
        due("a call was refused", begun, "setWeight(0, 1, 5) =", Runs.ARGUMENT, "setWeight(0, 3, 2) =",
                Runs.BOUNDS, "setWeight(1, 1, 2) =", Runs.ARGUMENT, "makeRing(5) =", Runs.ARGUMENT,
                "clear(8) =", Runs.ARGUMENT, "nextTree() = 5");
        due("other things changed", begun, "choose(0, 1, 3); setChips(1, 5); settle(); drawTree(0);",
                "walk(3); turn(3); seed(5); isSound() = true; countTrees() = 3; nextTree() = 5");
    }

    private void draws() {
        due("1 at first", "seed(1) = 1");
        for (long z : new long[] {1, 2, 44488, 44489, 1073741824, 2147483645, 2147483646}) {
            due("one draw", "clear(2); makeRing(1);", "seed(" + z + "); drawTree(1) = 1;",
                    "seed(1) = " + nextZ(z));
            due("two draws", "clear(2); makeRing(1); putWalker(true, 1);", "seed(" + z + "); walk(1) = 1;",
                    "seed(1) = " + nextZ(nextZ(z)));
        }
        due("the greatest", "clear(2); makeRing(1); seed(2147483646) = 1; drawTree(0) = 1;",
                "seed(1) = 2147435376");
        due("the first and the last that are allowed", "seed(0) =", Runs.ARGUMENT, "seed(2147483647) =",
                Runs.ARGUMENT, "seed(-2147483648) =", Runs.ARGUMENT, "seed(2147483646) = 1;",
                "seed(1) = 2147483646; seed(1) = 1");
        due("no draw", TRIANGLE, "seed(9); walk(9) = 0; turn(9); drawTree(3) =", Runs.BOUNDS, "walk(0) =",
                Runs.ARGUMENT, "countTrees(); isSound(); listTrees(); nextTree(); clear(2); seed(1) = 9");
    }

    /** The least z whose next draws leave such remainders by such degrees. */
    private static long seedFor(int[] degrees, int... remainders) {
        for (long z = 1; z < 2147483647; z++) {
            long next = z;
            boolean isLike = true;
            for (int draw = 0; draw < degrees.length && isLike; draw++) {
                next = nextZ(next);
                isLike = next % degrees[draw] == remainders[draw];
            }
            if (isLike) {
                return z;
            }
        }
        throw new IllegalArgumentException("no such z");
    }

    private void stepsByRemainders() {
        int[] weights = {0, 4, 0, 1, 2, 0, 3};
        StringBuilder graph = new StringBuilder("clear(7); ");
        StringBuilder numbers = new StringBuilder();
        for (int other = 1; other < 7; other++) {
            graph.append(Nets.weight(0, other, weights[other]));
            numbers.append(Integer.toString(other).repeat(weights[other]));
        }
        int degree = numbers.length();
        for (int remainder = 0; remainder < degree; remainder++) {
            long z = seedFor(new int[] {degree}, remainder);
            due("each neighbour as many as its weight", graph.toString(), "seed(" + z + ");",
                    "putWalker(false, 1); walk(1) = 1; getWalker(true) = " + numbers.charAt(remainder));
        }
        for (int weight = 1; weight <= 4; weight++) {
            int[] degrees = {2 * weight};
            String ring = "clear(3); makeRing(" + weight + "); putWalker(true, 1); ";
            due("the last number of the first one", ring, "seed(" + seedFor(degrees, weight - 1) + ");",
                    "walk(1) = 1; getWalker(true) = 0");
            due("the first number of the second one", ring, "seed(" + seedFor(degrees, weight) + ");",
                    "walk(1) = 1; getWalker(true) = 2");
        }
    }

    private void treesFromARoot() {
        for (int places = 2; places <= 7; places++) {
            for (int root = 0; root < places; root++) {
                int bits = 0;
                long z = 1;
                for (int other = 0; other < places; other++) {
                    if (other != root) {
                        bits |= 1 << Nets.number(places, root, other);
                        z = nextZ(z);
                    }
                }
                due("one draw for each place at the root", Nets.star(places, root, 3),
                        "drawTree(" + root + ") = " + (places - 1), "; getDrawn() = " + bits,
                        "; seed(1) = " + z);
            }
        }
        // From 1 to 2, to 1 and to 0, by 1, 0 and 0; then from 2 to 1.
        due("from the lowest", Nets.line(3, 1), "drawTree(0) = 4; getDrawn() = 5; seed(1) = 1914720637");
        // From 0 to 1, back by 0, to 1 again and to 2 by 1.
        due("the root is not the lowest", Nets.line(3, 1), "drawTree(2) = 4; getDrawn() = 5;",
                "seed(1) = 1914720637");
    }

    private void waysByLastSteps() {
        int[] degrees = {2, 2, 2, 2};
        // From 0 to 1, back to 0, then to 2; then from 1 to 0 or to 2.
        due("a way that came back", TRIANGLE, "seed(" + seedFor(degrees, 0, 0, 1, 0) + ");",
                "drawTree(2) = 4; getDrawn() = 3");
        due("a way that came back, the other end", TRIANGLE,
                "seed(" + seedFor(degrees, 0, 0, 1, 1) + "); drawTree(2) = 4; getDrawn() = 6");
        // From 0 to 1, then to 2: both edges are added at once.
        due("a way of two edges", TRIANGLE, "seed(" + seedFor(new int[] {2, 2}, 0, 1) + ");",
                "drawTree(2) = 2; getDrawn() = 5");
        // From 1 to 2, to 1 and to 0: of 1 the last step alone counts.
        due("a place that was left twice", TRIANGLE, "seed(" + seedFor(degrees, 1, 1, 0, 0) + ");",
                "drawTree(0) = 4; getDrawn() = 3");
    }

    private void drawnTreeIsKept() {
        String drawn = TRIANGLE + "drawTree(0) = 2; getDrawn() = 6; ";
        due("a weight of another edge", drawn, "setWeight(0, 1, 4) = 1; getDrawn() = 6;",
                "setWeight(0, 1, 0) = 4; getDrawn() = 6; undo() = 4; getDrawn() = 6; undo() = 3;",
                "getDrawn() = 6; isSound() = true");
        due("the same weight again", drawn, "setWeight(1, 2, 1) = 1; makeRing(1) = 0; getDrawn() = 6");
        due("calls that are refused", drawn, "setWeight(1, 2, 5) =", Runs.ARGUMENT, "drawTree(3) =",
                Runs.BOUNDS, "drawTree(-1) =", Runs.BOUNDS, "makeRing(5) =", Runs.ARGUMENT, "clear(9) =",
                Runs.ARGUMENT, "getDrawn() = 6");
        due("a draw that is refused as the graph is not joined", Nets.full(4, 1), "seed(1);",
                "setWeight(1, 2, 0); setWeight(2, 3, 0); drawTree(2); getDrawn() = 7;",
                "setWeight(1, 3, 2) = 1; getDrawn() = 7");
        due("other calls", drawn, "seed(7); walk(9); turn(9); listTrees(); nextTree(); settle();",
                "isSound(); choose(1, 2, 3); getDrawn() = 6; getDrawn() = 6");
    }

    private void drawnTreeIsDropped() {
        String drawn = TRIANGLE + "drawTree(0) = 2; getDrawn() = 6; ";
        due("none at first", "getDrawn() =", Runs.ELEMENT, TRIANGLE, "getDrawn() =", Runs.ELEMENT);
        due("a weight of the one edge", drawn, "setWeight(0, 2, 2) = 1; getDrawn() =", Runs.ELEMENT,
                "setWeight(0, 2, 1) = 2; getDrawn() =", Runs.ELEMENT);
        due("a weight of the other edge", drawn, "setWeight(2, 1, 0) = 1; getDrawn() =", Runs.ELEMENT,
                "undo() = 3; getDrawn() =", Runs.ELEMENT, "isSound() = true");
        due("by taking back", TRIANGLE, "setWeight(0, 2, 3); setWeight(0, 1, 3); makeRing(3);",
                "seed(1); drawTree(0) = 2; getDrawn() = 3; undo() = 5; getDrawn() = 3; undo() = 4;",
                "getDrawn() =", Runs.ELEMENT);
        due("by a ring", drawn, "makeRing(2) = 3; getDrawn() =", Runs.ELEMENT);
        due("by a new graph", drawn, "clear(3) = 3; getDrawn() =", Runs.ELEMENT);
        due("by another one", drawn, "seed(" + seedFor(new int[] {2, 2}, 0, 1) + "); drawTree(2) = 2;",
                "getDrawn() = 5");
        due("not joined", "drawTree(0) =", Runs.OPERATION, Nets.line(3, 1), "setWeight(0, 1, 0);",
                "drawTree(0) =", Runs.OPERATION, "drawTree(2) =", Runs.OPERATION, "seed(1) = 1");
    }

    private void walkersAtFirst() {
        for (int places = 2; places <= 7; places++) {
            due("both at 0", Nets.clear(places), "getWalker(true) = 0; getWalker(false) = 0;",
                    "putWalker(true, " + (places - 1) + ") = 0; getWalker(false) = 0;",
                    "putWalker(false, 1) = 0; getWalker(true) = " + (places - 1),
                    "; getWalker(false) = 1; putWalker(true, " + places + ") =", Runs.BOUNDS,
                    "putWalker(false, -1) =", Runs.BOUNDS, "putWalker(true, 0) = " + (places - 1),
                    "; putWalker(false, 0) = 1; getWalker(true) = 0; getWalker(false) = 0");
        }
    }

    private void walkersMeet() {
        int[] degrees = {2, 2};
        String apart = TRIANGLE + "putWalker(false, 1) = 0; ";
        due("the first draw is the first walker's", apart, "seed(" + seedFor(degrees, 0, 1) + ");",
                "walk(1) = 1; getWalker(true) = 1; getWalker(false) = 2");
        due("the second draw is the second walker's", apart, "seed(" + seedFor(degrees, 1, 0) + ");",
                "walk(1) = 1; getWalker(true) = 2; getWalker(false) = 0");
        due("both at one place", apart, "seed(" + seedFor(degrees, 1, 1) + "); walk(200) = 1;",
                "getWalker(true) = 2; getWalker(false) = 2; walk(200) = 0");
        long z = seedFor(degrees, 1, 1);
        due("two draws and no more", apart, "seed(" + z + "); walk(200) = 1; walk(1) = 0;",
                "seed(1) = " + nextZ(nextZ(z)));
        due("at once if they are at one place", TRIANGLE, "walk(1) = 0; walk(200) = 0; seed(1) = 1;",
                "putWalker(true, 2); putWalker(false, 2); walk(7) = 0; getWalker(true) = 2; seed(1) = 1");
    }

    private void walkersPassBy() {
        due("to each other's places", TRIANGLE, "putWalker(false, 1) = 0;",
                "seed(" + seedFor(new int[] {2, 2}, 0, 0) + "); walk(1) = 1; getWalker(true) = 1;",
                "getWalker(false) = 0");
        due("on one edge for ever", "clear(2); makeRing(4); putWalker(true, 1); walk(200) = 200;",
                "getWalker(true) = 1; getWalker(false) = 0; walk(199) = 199; getWalker(true) = 0;",
                "getWalker(false) = 1");
    }

    private void stepsAtMost() {
        long z = 1;
        for (int draw = 0; draw < 400; draw++) {
            z = nextZ(z);
        }
        due("200 steps", "clear(2); makeRing(1); putWalker(true, 1); walk(200) = 200; seed(1) = " + z);
        due("1 step", "clear(2); makeRing(1); putWalker(true, 1); walk(1) = 1; getWalker(true) = 0;",
                "seed(1) = 182605794; walk(0) =", Runs.ARGUMENT, "walk(201) =", Runs.ARGUMENT,
                "walk(-1) =", Runs.ARGUMENT, "getWalker(true) = 0; seed(1) = 1");
    }

    private void walkersWithoutANeighbour() {
        String edge = "setWeight(1, 2, 1); putWalker(true, 1); putWalker(false, 2); ";
        due("both have one, of a graph that is not joined", edge, "walk(3) = 3");
        due("the first one", edge, "putWalker(true, 0) = 1; walk(1) =", Runs.OPERATION,
                "putWalker(true, 2) = 0; walk(1) = 0");
        due("the second one", edge, "putWalker(false, 3) = 2; walk(200) =", Runs.OPERATION,
                "putWalker(false, 1) = 3; walk(1) = 0");
        due("both at one place", "walk(1) =", Runs.OPERATION, "setWeight(0, 1, 1); walk(1) = 0;",
                "setWeight(0, 1, 0); walk(1) =", Runs.OPERATION, "walk(0) =", Runs.ARGUMENT, "walk(201) =",
                Runs.ARGUMENT, "seed(1) = 1");
    }
}
