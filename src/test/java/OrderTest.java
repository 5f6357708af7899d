/**
 * Calls to which several exceptions apply: the one that is documented first is thrown, and nothing
 * is changed.
 */
public final class OrderTest {
    private static final String[] OUT = {"-2147483648", "-1", "4", "7", "2147483647"};

    private final Checks checks = new Checks();

    private OrderTest() {
    }

    public static void main(String[] args) {
        OrderTest test = new OrderTest();
        test.noPlaceAheadOfNumbers();
        test.noPlaceAheadOfTheSamePlace();
        test.noPlaceAheadOfTheGraph();
        test.theSamePlaceAheadOfTheGraph();
        test.numbersAheadOfNeighbours();
        test.noPlaceAheadOfWhatIsKept();
        test.noListAheadOfNoTree();
        test.checks.end("OrderTest");
    }

    private void due(String name, String... lines) {
        Runs.due(checks, name, lines);
    }

    private void noPlaceAheadOfNumbers() {
        String[] calls = {
            "setWeight(#, 0, 5)", "setWeight(0, #, 5)", "setWeight(0, #, -1)", "setWeight(#, #, 5)",
            "countWalks(#, 0, 41)", "countWalks(0, #, 41)", "countWalks(0, #, -1)",
            "countWalks(#, #, 41)", "setChips(#, 100)", "setChips(#, -1)", "choose(#, 0, 13)",
            "choose(0, #, 13)", "choose(0, #, -1)", "choose(#, #, 13)",
        };
        noPlace("a place ahead of a number", "setWeight(0, 1, 2);", calls);
    }

    private void noPlace(String name, String setUp, String[] calls) {
        for (String call : calls) {
            for (String place : OUT) {
                due(name, setUp, call.replace("#", place), "=", Runs.BOUNDS);
            }
        }
    }

    /** The graph is joined, so that these two alone apply. */
    private void noPlaceAheadOfTheSamePlace() {
        String[] calls = {
            "setWeight(#, #, 1)", "getWeight(#, #)", "getPair(#, #)", "getChance(0, #, #, true)",
            "getChance(#, 1, 1, true)", "getChance(#, #, #, true)", "getEscape(#, #, true)",
            "getResistance(#, #, true)", "countTreesWith(#, #)", "choose(#, #, 1)", "getOhms(#, #)",
        };
        noPlace("a place ahead of the same one", "makeRing(1);", calls);
    }

    /** Places 0 and 1 are neighbours, the others have none. */
    private void noPlaceAheadOfTheGraph() {
        String[] calls = {
            "getTime(#, 0, true)", "getTime(0, #, true)", "getTime(#, #, true)", "getReturn(#, true)",
            "getChance(#, 0, 1, true)", "getChance(0, #, 1, true)", "getChance(0, 1, #, true)",
            "getChance(#, #, #, true)", "getEscape(#, 0, true)", "getEscape(0, #, true)",
            "getEscape(#, #, true)", "getResistance(#, 0, true)", "getResistance(0, #, true)",
            "getResistance(#, #, true)", "drawTree(#)", "fire(#)", "getOhms(#, 0)", "getOhms(0, #)",
            "getOhms(#, #)",
        };
        noPlace("a place ahead of a graph that is not joined", "setWeight(0, 1, 2);", calls);
        noPlace("a place ahead of a graph without edges", "", calls);
    }

    private void theSamePlaceAheadOfTheGraph() {
        String[] calls = {
            "getChance(0, #, #, true)", "getEscape(#, #, true)", "getResistance(#, #, true)",
            "getOhms(#, #)",
        };
        for (String call : calls) {
            for (String place : new String[] {"0", "1", "3"}) {
                due("the same place ahead of the graph", "setWeight(0, 1, 2);", call.replace("#", place),
                        "=", Runs.ARGUMENT);
            }
        }
        due("the same place and a number", "setWeight(2, 2, 5) =", Runs.ARGUMENT, "choose(2, 2, 13) =",
                Runs.ARGUMENT);
    }

    private void numbersAheadOfNeighbours() {
        for (String steps : new String[] {"0", "201", "-1", "-2147483648", "2147483647"}) {
            due("steps ahead of a neighbour", "walk(" + steps + ") =", Runs.ARGUMENT,
                    "turn(" + steps + ") =", Runs.ARGUMENT);
        }
        due("steps that are allowed", "walk(1) =", Runs.OPERATION, "walk(200) =", Runs.OPERATION,
                "turn(1) =", Runs.OPERATION, "turn(200) =", Runs.OPERATION);
    }

    private void noPlaceAheadOfWhatIsKept() {
        noPlace("a place ahead of its neighbour", "", new String[] {"getRotor(#)"});
        due("a place without a neighbour", "getRotor(0) =", Runs.ELEMENT, "getRotor(3) =", Runs.ELEMENT);
    }

    private void noListAheadOfNoTree() {
        due("no list, and no tree", "nextTree() =", Runs.STATE);
        due("a list without a tree", "listTrees() = 0; nextTree() =", Runs.ELEMENT,
                "setWeight(0, 1, 1) = 0; nextTree() =", Runs.STATE);
        due("none is left, then a weight changes", "clear(2) = 4; makeRing(1) = 1; listTrees() = 1;",
                "nextTree() = 1; nextTree() =", Runs.ELEMENT, "setWeight(0, 1, 2) = 1; nextTree() =",
                Runs.STATE, "undo() = 1; nextTree() =", Runs.STATE, "listTrees() = 1; nextTree() = 1;",
                "nextTree() =", Runs.ELEMENT, "clear(2) = 2; nextTree() =", Runs.STATE);
    }
}
