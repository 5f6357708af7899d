import java.util.ArrayList;
import java.util.List;

/** Each promise by itself: ordinary calls, the edges that the document names, and wrong calls. */
public final class PromiseTest {
    private static final String BOUNDS = Runs.BOUNDS;
    private static final String ARGUMENT = Runs.ARGUMENT;
    private static final String OPERATION = Runs.OPERATION;
    private static final String ELEMENT = Runs.ELEMENT;
    private static final String STATE = Runs.STATE;
    private static final String TRIANGLE = "clear(3) = 4; makeRing(1) = 3; ";
    private static final String LINE =
            "setWeight(0, 1, 1) = 0; setWeight(1, 2, 1) = 0; setWeight(2, 3, 1) = 0; ";

    private final Checks checks = new Checks();

    private PromiseTest() {
    }

    public static void main(String[] args) {
        PromiseTest test = new PromiseTest();
        test.examples();
        test.graphs();
        test.changesTakenBack();
        test.walks();
        test.currents();
        test.trees();
        test.listOfTrees();
        test.drawnTrees();
        test.walkers();
        test.chips();
        test.settling();
        test.states();
        test.rotors();
        test.fewEdges();
        test.cuts();
        test.values();
        test.sums();
        test.wrongPlaces();
        test.checks.end("PromiseTest");
    }

    private void due(String name, String... lines) {
        Runs.due(checks, name, lines);
    }

    private void examples() {
        due("example 1", "clear(3) = 4; makeRing(1) = 3; getTime(0, 1, true) = 2;",
                "getResistance(0, 1, true) = 2; getResistance(0, 1, false) = 3;",
                "getReturn(0, true) = 3; countTrees() = 3");
        due("example 2", "clear(3) = 4; makeRing(1) = 3; listTrees() = 3; nextTree() = 3;",
                "nextTree() = 5; nextTree() = 6; countTreesWith(0, 1) = 2");
        due("example 3", "clear(3) = 4; makeRing(1) = 3; setChips(1, 3) = 0; setChips(2, 1) = 0;",
                "getState() = 'u'; settle() = 3; getChips(1) = 0; getChips(2) = 1;",
                "getState() = 'r'; countRecurrent() = 3");
        due("example 4", LINE, "getShare(true) = 1; getShare(false) = 3; getBest() = 3;",
                "countAbove(0) = 3; getCoefficient(1) = -4");
        due("example 5", "setWeight(0, 1, 1) = 0; setWeight(0, 2, 1) = 0; getRotor(0) = 1;",
                "turn(1) = 2; turn(1) = 0; getRotor(0) = 2; turn(3) = 2");
        due("the example of README.md", TRIANGLE, "getResistance(0, 1, true) = 2;",
                "getResistance(0, 1, false) = 3; listTrees() = 3; nextTree() = 3;",
                "setWeight(0, 1, 2) = 1; nextTree() = ", STATE, "undo() = 3");
    }

    private void graphs() {
        due("1", "getDegree(3) = 0; getDegree(4) = ", BOUNDS, "isJoined() = false;",
                "checksum() = 4391997390932928456; getWalker(true) = 0; getWalker(false) = 0;",
                "setSink(0) = 0; seed(1) = 1; getMeanDegree() = 0.0; countAbove(0) = 0; undo() = ",
                ELEMENT, "nextTree() = ", STATE, "getDrawn() = ", ELEMENT, "getRotor(0) = ", ELEMENT);
        due("2", "clear(1) = ", ARGUMENT, "clear(8) = ", ARGUMENT, "clear(-2147483648) = ", ARGUMENT,
                "clear(7) = 4; getDegree(6) = 0; getDegree(7) = ", BOUNDS, "clear(2) = 7;",
                "getDegree(1) = 0; getDegree(2) = ", BOUNDS, "clear(2) = 2");
        due("2, all as at first", "makeRing(2) = 4; putWalker(true, 3) = 0; drawTree(0) = 7;",
                "getDrawn() = 37; seed(9) = 1105902161;",
                "putWalker(false, 2) = 0; setChips(1, 7) = 0; setSink(3) = 0; turn(1) = 3;",
                "choose(0, 1, 5) = 0; listTrees() = 4; clear(4) = 4;",
                "getWeight(0, 1) = 0; getDegree(0) = 0; getWalker(true) = 0; getWalker(false) = 0;",
                "getChips(1) = 0; setSink(0) = 0; choose(0, 1, 0) = 0; undo() = ", ELEMENT,
                "nextTree() = ", STATE, "getDrawn() = ", ELEMENT, "getRotor(0) = ", ELEMENT,
                "setWeight(0, 1, 1) = 0; turn(1) = 1; seed(1) = 9");
        due("3", "setWeight(0, 1, 4) = 0; setWeight(1, 0, 3) = 4; getWeight(0, 1) = 3;",
                "setWeight(0, 1, 5) = ", ARGUMENT, "setWeight(0, 1, -1) = ", ARGUMENT,
                "setWeight(2, 2, 1) = ", ARGUMENT, "setWeight(0, 4, 1) = ", BOUNDS,
                "setWeight(-1, 0, 1) = ", BOUNDS, "setWeight(4, 4, 9) = ", BOUNDS,
                "getWeight(0, 1) = 3; undo() = 1; getWeight(1, 0) = 4; undo() = 0");
        due("4", "setWeight(1, 3, 2) = 0; getWeight(1, 3) = 2; getWeight(3, 1) = 2;",
                "getWeight(0, 1) = 0; getWeight(1, 1) = ", ARGUMENT, "getWeight(0, 4) = ", BOUNDS,
                "getWeight(4, 0) = ", BOUNDS, "getWeight(-1, -1) = ", BOUNDS);
        due("6", "setWeight(0, 1, 2) = 0; setWeight(0, 2, 3) = 0; getDegree(0) = 5;",
                "getDegree(1) = 2; getDegree(3) = 0; setWeight(0, 2, 1) = 3; getDegree(0) = 3;",
                "undo() = 2; getDegree(2) = 3; getDegree(-1) = ", BOUNDS, "getDegree(4) = ", BOUNDS);
        due("7", "isJoined() = false;", LINE, "isJoined() = true; setWeight(1, 2, 0) = 1;",
                "isJoined() = false; setWeight(0, 3, 1) = 0; isJoined() = true; clear(2) = 4;",
                "isJoined() = false; makeRing(1) = 1; isJoined() = true; clear(7) = 2;",
                "setWeight(0, 6, 1) = 0; setWeight(6, 1, 1) = 0; setWeight(1, 5, 1) = 0;",
                "setWeight(5, 2, 1) = 0; setWeight(2, 4, 1) = 0; isJoined() = false;",
                "setWeight(4, 3, 1) = 0; isJoined() = true");
        due("8", "getPair(0, 1) = 0; getPair(0, 3) = 2; getPair(1, 2) = 3; getPair(3, 2) = 5;",
                "clear(7) = 4; getPair(0, 6) = 5; getPair(1, 2) = 6; getPair(5, 6) = 20;",
                "getPair(6, 5) = 20; getPair(3, 3) = ", ARGUMENT, "getPair(0, 7) = ", BOUNDS,
                "getPair(7, 7) = ", BOUNDS, "clear(2) = 7; getPair(1, 0) = 0");
        due("9", "setWeight(0, 2, 3) = 0; setWeight(0, 1, 2) = 0; makeRing(2) = 4;",
                "getWeight(0, 1) = 2; getWeight(0, 2) = 0; getWeight(0, 3) = 2;",
                "getWeight(1, 3) = 0; makeRing(2) = 0; makeRing(0) = ", ARGUMENT, "makeRing(5) = ",
                ARGUMENT, "undo() = 5; getWeight(2, 3) = 0; undo() = 4; getWeight(1, 2) = 0;",
                "undo() = 3; getWeight(0, 3) = 0; undo() = 2; getWeight(0, 2) = 3;",
                "clear(2) = 4; makeRing(4) = 1; getWeight(0, 1) = 4; clear(3) = 2;",
                "makeRing(4) = 3; getDegree(2) = 8; clear(7) = 3; makeRing(1) = 7; getWeight(0, 6) = 1");
    }

    private void changesTakenBack() {
        due("5", "undo() = ", ELEMENT, "setWeight(0, 1, 1) = 0; setWeight(0, 1, 1) = 1;",
                "setWeight(0, 1, 2) = 1; setWeight(2, 3, 4) = 0; undo() = 2; getWeight(2, 3) = 0;",
                "undo() = 1; getWeight(0, 1) = 1; setWeight(0, 2, 1) = 0; undo() = 1; undo() = 0;",
                "getWeight(0, 1) = 0; undo() = ", ELEMENT);
        StringBuilder changes = new StringBuilder();
        for (int change = 0; change < 45; change++) {
            changes.append(Nets.weight(0, 1 + change % 3, 1 + change / 3 % 4));
        }
        for (int left = 29; left >= 0; left--) {
            changes.append("undo() = ").append(left).append("; ");
        }
        due("5, thirty at most", changes.toString(), "undo() = ", ELEMENT,
                "getWeight(0, 1) = 1; getWeight(0, 2) = 1; getWeight(0, 3) = 1");
    }

    private void walks() {
        due("10", LINE, "getTime(0, 3, true) = 9; getTime(0, 3, false) = 1; getTime(3, 1, true) = 4;",
                "getTime(0, 1, true) = 1; getTime(2, 2, true) = 0; getTime(2, 2, false) = 1;",
                "getTime(0, 4, true) = ", BOUNDS, "getTime(-1, 0, true) = ", BOUNDS,
                "setWeight(0, 1, 0) = 1; getTime(2, 3, true) = ", OPERATION, "getTime(2, 2, true) = ",
                OPERATION, "getTime(4, 0, true) = ", BOUNDS);
        due("11", LINE, "getReturn(0, true) = 6; getReturn(0, false) = 1; getReturn(1, true) = 3;",
                "setWeight(0, 1, 2) = 1; getReturn(1, true) = 8; getReturn(1, false) = 3;",
                "getReturn(4, true) = ", BOUNDS, "setWeight(0, 1, 0) = 2; getReturn(2, true) = ",
                OPERATION, "getReturn(-1, true) = ", BOUNDS);
        due("12", LINE, "getChance(1, 0, 3, true) = 2; getChance(1, 0, 3, false) = 3;",
                "getChance(0, 0, 3, true) = 1; getChance(0, 0, 3, false) = 1;",
                "getChance(3, 0, 3, true) = 0; getChance(3, 0, 3, false) = 1;",
                "getChance(0, 1, 2, true) = 1; getChance(3, 1, 2, true) = 0;",
                "getChance(0, 1, 1, true) = ", ARGUMENT, "getChance(4, 1, 1, true) = ", BOUNDS,
                "getChance(0, 4, 1, true) = ", BOUNDS, "getChance(0, 1, -1, true) = ", BOUNDS,
                "setWeight(2, 3, 0) = 1; getChance(0, 1, 1, true) = ", ARGUMENT,
                "getChance(0, 1, 2, true) = ", OPERATION);
        due("13", LINE, "getEscape(0, 3, true) = 1; getEscape(0, 3, false) = 3;",
                "getEscape(1, 3, true) = 1; getEscape(1, 3, false) = 4; getEscape(0, 1, true) = 1;",
                "getEscape(0, 1, false) = 1; getEscape(0, 0, true) = ", ARGUMENT,
                "getEscape(0, 4, true) = ", BOUNDS, "getEscape(4, 4, true) = ", BOUNDS,
                "setWeight(2, 3, 0) = 1; getEscape(1, 1, true) = ", ARGUMENT, "getEscape(1, 0, true) = ",
                OPERATION);
        due("14", "countWalks(0, 0, 0) = 1; countWalks(0, 1, 0) = 0; countWalks(0, 0, 1) = 0;", TRIANGLE,
                "countWalks(0, 0, 2) = 2; countWalks(0, 1, 2) = 1; countWalks(0, 1, 1) = 1;",
                "setWeight(0, 1, 3) = 1; countWalks(0, 1, 1) = 3; countWalks(0, 0, 2) = 10;",
                "countWalks(0, 0, 41) = ", ARGUMENT, "countWalks(0, 0, -1) = ", ARGUMENT,
                "countWalks(0, 3, 41) = ", BOUNDS, "countWalks(-1, 0, 2) = ", BOUNDS, "clear(2) = 3;",
                "makeRing(4) = 1; countWalks(0, 0, 30) = 1152921504606846976;",
                "countWalks(0, 1, 31) = 4611686018427387904; countWalks(0, 0, 32) = 0;",
                "setWeight(0, 1, 3) = 4; countWalks(0, 0, 40) = -6289078614652622815");
    }

    private void currents() {
        due("15", TRIANGLE, "getResistance(0, 1, true) = 2; getResistance(1, 0, false) = 3;",
                "setWeight(0, 1, 0) = 1; getResistance(0, 1, true) = 2; getResistance(0, 1, false) = 1;",
                "getResistance(1, 1, true) = ", ARGUMENT, "getResistance(0, 3, true) = ", BOUNDS,
                "getResistance(3, 3, true) = ", BOUNDS, "setWeight(0, 2, 0) = 1;",
                "getResistance(1, 2, true) = ", OPERATION, "getResistance(2, 2, true) = ", ARGUMENT,
                "clear(2) = 3; makeRing(3) = 1; getResistance(0, 1, true) = 1;",
                "getResistance(0, 1, false) = 3");
        due("44", TRIANGLE, "getOhms(0, 1) = 0.6666666666666666; setWeight(0, 1, 0) = 1;",
                "getOhms(1, 0) = 2.0; getOhms(1, 1) = ", ARGUMENT, "getOhms(0, 3) = ", BOUNDS,
                "getOhms(-1, -1) = ", BOUNDS, "setWeight(0, 2, 0) = 1; getOhms(1, 2) = ", OPERATION,
                "getOhms(2, 2) = ", ARGUMENT);
    }

    private void trees() {
        due("16", "countTrees() = 0;", LINE, "countTrees() = 1; setWeight(1, 2, 4) = 1;",
                "countTrees() = 4; setWeight(0, 1, 0) = 1; countTrees() = 0; makeRing(3) = 4;",
                "countTrees() = 108; clear(7) = 4; makeRing(4) = 7; countTrees() = 28672");
        due("17", TRIANGLE, "countTreesWith(0, 1) = 2; setWeight(0, 1, 3) = 1;",
                "countTreesWith(1, 0) = 6; countTreesWith(0, 2) = 4; setWeight(1, 2, 0) = 1;",
                "countTreesWith(1, 2) = 0; setWeight(0, 1, 0) = 3; countTreesWith(0, 2) = 0;",
                "countTreesWith(0, 0) = ", ARGUMENT, "countTreesWith(0, 3) = ", BOUNDS,
                "countTreesWith(3, 3) = ", BOUNDS);
        due("18", "countForests(15) = 1; countForests(7) = 0;", TRIANGLE, "countForests(1) = 3;",
                "countForests(3) = 2; countForests(7) = 1; countForests(0) = ", ARGUMENT,
                "countForests(8) = ", ARGUMENT, "countForests(9) = ", ARGUMENT, "countForests(-1) = ",
                ARGUMENT, "setWeight(0, 1, 3) = 1; countForests(5) = 4; setWeight(0, 2, 0) = 1;",
                "setWeight(1, 2, 0) = 1; countForests(1) = 0; countForests(5) = 3;",
                "countForests(4) = 0; countForests(6) = 3; countForests(3) = 0");
    }

    private void listOfTrees() {
        due("19, 20", "nextTree() = ", STATE, "listTrees() = 0; nextTree() = ", ELEMENT, TRIANGLE,
                "nextTree() = ", STATE, "setWeight(0, 1, 4) = 1; listTrees() = 3; nextTree() = 3;",
                "listTrees() = 3; nextTree() = 3; setWeight(0, 1, 4) = 4; nextTree() = 5;",
                "setWeight(0, 1, 3) = 4; nextTree() = ", STATE, "listTrees() = 3; nextTree() = 3;",
                "undo() = 4; nextTree() = ", STATE, "listTrees() = 3; nextTree() = 3; nextTree() = 5;",
                "nextTree() = 6; nextTree() = ", ELEMENT, "nextTree() = ", ELEMENT, "isSound() = true;",
                "makeRing(1) = 1; nextTree() = ", STATE, "listTrees() = 3; makeRing(1) = 0;",
                "nextTree() = 3; clear(3) = 3; nextTree() = ", STATE);
        int[] counts = {0, 0, 1, 3, 16, 125, 1296, 16807};
        for (int places = 2; places <= 7; places++) {
            StringBuilder calls = new StringBuilder(Nets.full(places, 4));
            calls.append("countTrees() = ").append((long) counts[places] << 2 * (places - 1));
            calls.append("; listTrees() = ").append(counts[places]).append("; ");
            List<Integer> trees = allTrees(places);
            checks.due("as many sets of edges", trees.size(), counts[places]);
            // An object is used for so many calls alone.
            for (int tree : trees.subList(0, Math.min(trees.size(), 480))) {
                calls.append("nextTree() = ").append(tree).append("; ");
            }
            due("16, 19, 20, all edges of " + places, calls.toString(),
                    places < 6 ? "nextTree() = " + ELEMENT : "", "isSound() = true");
        }
    }

    private static List<Integer> allTrees(int places) {
        List<Integer> trees = new ArrayList<>();
        for (int set = 0; set < 1 << Nets.pairs(places); set++) {
            if (Integer.bitCount(set) == places - 1 && joins(set, places)) {
                trees.add(set);
            }
        }
        return trees;
    }

    private static boolean joins(int set, int places) {
        int met = 1;
        for (int round = 1; round < places; round++) {
            int pair = 0;
            for (int low = 0; low < places; low++) {
                for (int high = low + 1; high < places; high++) {
                    int ends = 1 << low | 1 << high;
                    if ((set >> pair & 1) == 1 && (met & ends) != 0) {
                        met |= ends;
                    }
                    pair++;
                }
            }
        }
        return met == (1 << places) - 1;
    }

    private void drawnTrees() {
        // z goes 48271, 182605794, 1291394886, 1914720637, 2078669041.
        due("21, 22", "drawTree(0) = ", OPERATION, "drawTree(4) = ", BOUNDS, TRIANGLE, "getDrawn() = ",
                ELEMENT, "drawTree(0) = 2; getDrawn() = 6; seed(1) = 182605794; drawTree(3) = ", BOUNDS,
                "drawTree(-1) = ", BOUNDS, "getDrawn() = 6; setWeight(0, 1, 2) = 1; getDrawn() = 6;",
                "setWeight(1, 2, 2) = 1; getDrawn() = ", ELEMENT, "undo() = 4; getDrawn() = ", ELEMENT);
        due("22, taking back", TRIANGLE, "setWeight(0, 2, 2) = 1; drawTree(0) = 2;",
                "getDrawn() = 6; setWeight(0, 1, 2) = 1; getDrawn() = 6; undo() = 4;",
                "getDrawn() = 6; undo() = 3; getDrawn() = ", ELEMENT);
        due("21, by weights", "clear(2) = 4; makeRing(4) = 1; drawTree(1) = 1; getDrawn() = 1;",
                "seed(1) = 48271; clear(3) = 2; setWeight(0, 1, 4) = 0; setWeight(1, 2, 1) = 0;",
                "drawTree(0) = 2; getDrawn() = 5; seed(7) = 182605794");
        due("23", "seed(0) = ", ARGUMENT, "seed(2147483647) = ", ARGUMENT, "seed(-1) = ", ARGUMENT,
                "seed(2147483646) = 1; seed(1) = 2147483646; seed(77) = 1; clear(3) = 4; seed(1) = 77");
    }

    private void walkers() {
        due("24, 26", "putWalker(true, 3) = 0; putWalker(false, 2) = 0; getWalker(true) = 3;",
                "getWalker(false) = 2; putWalker(true, 4) = ", BOUNDS, "putWalker(false, -1) = ", BOUNDS,
                "putWalker(true, 1) = 3; putWalker(false, 0) = 2; getWalker(true) = 1");
        due("25", TRIANGLE, "putWalker(false, 1) = 0; walk(2) = 2; getWalker(true) = 0;",
                "getWalker(false) = 2; seed(1) = 1914720637; walk(0) = ", ARGUMENT, "walk(201) = ",
                ARGUMENT, "putWalker(true, 2) = 0; walk(200) = 0; seed(1) = 1; clear(2) = 3; walk(5) = ",
                OPERATION, "walk(201) = ", ARGUMENT, "makeRing(1) = 1; putWalker(true, 1) = 0;",
                "walk(200) = 200; getWalker(true) = 1; getWalker(false) = 0");
        due("25, no neighbour", "setWeight(0, 1, 1) = 0; putWalker(true, 2) = 0; walk(1) = ", OPERATION,
                "putWalker(true, 0) = 2; putWalker(false, 3) = 0; walk(1) = ", OPERATION,
                "putWalker(true, 3) = 0; walk(1) = ", OPERATION);
        due("25, they meet", "clear(3) = 4; setWeight(0, 1, 1) = 0; setWeight(1, 2, 1) = 0;",
                "putWalker(false, 2) = 0; walk(9) = 1; getWalker(true) = 1; getWalker(false) = 1;",
                "seed(1) = 182605794");
    }

    private void chips() {
        due("27, 28", "setChips(0, 99) = 0; setChips(3, 5) = 0; setChips(0, 100) = ", ARGUMENT,
                "setChips(0, -1) = ", ARGUMENT, "setChips(4, 100) = ", BOUNDS, "setChips(-1, 1) = ",
                BOUNDS, "getChips(0) = 99; getChips(3) = 5; getChips(4) = ", BOUNDS, "getChips(-1) = ",
                BOUNDS, "setChips(0, 0) = 99");
        due("29", "setSink(3) = 0; setSink(4) = ", BOUNDS, "setSink(-1) = ", BOUNDS, "setSink(1) = 3");
        due("30", "clear(3) = 4; setWeight(0, 1, 1) = 0; setWeight(1, 2, 2) = 0; fire(0) = ", OPERATION,
                "fire(1) = ", OPERATION, "fire(3) = ", BOUNDS, "fire(-1) = ", BOUNDS,
                "setChips(1, 2) = 0; fire(1) = ", OPERATION, "setChips(1, 4) = 2; fire(1) = 1;",
                "getChips(0) = 0; getChips(2) = 2; setChips(0, 50) = 0; fire(0) = ", OPERATION,
                "fire(2) = 0; getChips(1) = 3; setChips(2, 98) = 0; fire(1) = ", OPERATION,
                "setChips(2, 97) = 98; setChips(0, 99) = 50; fire(1) = 0; getChips(2) = 99;",
                "getChips(0) = 99; setSink(1) = 0; fire(0) = 98; getChips(1) = 0");
        due("30, no degree", "setChips(1, 9) = 0; fire(1) = ", OPERATION, "setWeight(1, 2, 1) = 0;",
                "fire(1) = 8; getChips(2) = 1");
    }

    private void settling() {
        due("31", "settle() = ", OPERATION, TRIANGLE, "settle() = 0; setChips(1, 3) = 0;",
                "setChips(2, 1) = 0; setChips(0, 98) = 0; settle() = 3; getChips(0) = 98;",
                "getChips(1) = 0; getChips(2) = 1; setChips(1, 99) = 0; setChips(2, 99) = 1;",
                "settle() = ", OPERATION, "getChips(1) = 99; getChips(2) = 99; getChips(0) = 98");
        due("31, too many meanwhile", "clear(4) = 4; setWeight(0, 1, 1) = 0; setWeight(1, 2, 4) = 0;",
                "setWeight(2, 3, 1) = 0; setChips(1, 5) = 0; setChips(2, 96) = 0; settle() = ",
                OPERATION, "getChips(1) = 5; getChips(2) = 96; setChips(2, 95) = 96;",
                "setSink(2) = 0; settle() = 2; getChips(1) = 1; getChips(2) = 95; getChips(0) = 0");
        due("33", "countRecurrent() = ", OPERATION, TRIANGLE, "countRecurrent() = 3;",
                "setSink(2) = 0; countRecurrent() = 3; clear(2) = 3; makeRing(4) = 1;",
                "countRecurrent() = 4; clear(7) = 2; makeRing(1) = 7; countRecurrent() = 7;",
                "makeRing(2) = 7; countRecurrent() = ", OPERATION, "setWeight(0, 1, 0) = 2;",
                "setWeight(1, 2, 0) = 2; countRecurrent() = ", OPERATION);
        // The degrees of places but the sink are 5, 10, 6 and 10, whose product is 3000.
        due("33, as many as may be", "clear(5) = 4; setWeight(1, 2, 2) = 0; setWeight(1, 4, 3) = 0;",
                "setWeight(2, 3, 3) = 0; setWeight(2, 4, 4) = 0; setWeight(3, 4, 3) = 0;",
                "setWeight(0, 2, 1) = 0; getDegree(1) = 5; getDegree(2) = 10; getDegree(3) = 6;",
                "getDegree(4) = 10; countTrees() = 201; countRecurrent() = 201;",
                "setWeight(0, 2, 2) = 1; countRecurrent() = ", OPERATION);
    }

    private void states() {
        due("32", "getState() = ", OPERATION, TRIANGLE, "getState() = 's'; setChips(1, 1) = 0;",
                "getState() = 'r'; setChips(2, 1) = 0; getState() = 'r'; setChips(2, 2) = 1;",
                "getState() = 'u'; setSink(2) = 0; getState() = 'r'; setChips(1, 0) = 1;",
                "getState() = 's'; setChips(0, 1) = 0;",
                "getState() = 'r'; getChips(2) = 2; getChips(0) = 1");
        due("32, a line", LINE, "getState() = 's'; setChips(1, 1) = 0; getState() = 's';",
                "setChips(2, 1) = 0;",
                "getState() = 'r'; setChips(0, 77) = 0; getState() = 'r'; setChips(3, 1) = 0;",
                "getState() = 'u'");
    }

    private void rotors() {
        due("34", "turn(1) = ", OPERATION, "turn(0) = ", ARGUMENT, "turn(201) = ", ARGUMENT,
                "clear(2) = 4; makeRing(4) = 1; turn(200) = 0; turn(1) = 1; turn(1) = 0;",
                "clear(4) = 2; setWeight(0, 1, 4) = 0; setWeight(0, 2, 1) = 0;",
                "setWeight(0, 3, 2) = 0; turn(1) = 2; turn(1) = 0; turn(1) = 3; turn(1) = 0;",
                "turn(1) = 1; turn(2) = 2; turn(201) = ", ARGUMENT, "turn(200) = 3");
        due("35", "getRotor(0) = ", ELEMENT, "getRotor(4) = ", BOUNDS, "getRotor(-1) = ", BOUNDS,
                "setWeight(0, 3, 1) = 0; setWeight(0, 2, 1) = 0; getRotor(0) = 2; getRotor(3) = 0;",
                "getRotor(1) = ", ELEMENT, "turn(1) = 3; getRotor(0) = 3; setWeight(2, 3, 1) = 0;",
                "getRotor(0) = 3; turn(1) = 2; turn(1) = 3; turn(1) = 0; getRotor(2) = 3;",
                "setWeight(2, 3, 2) = 1; getRotor(2) = 0; getRotor(3) = 0; setWeight(0, 1, 1) = 0;",
                "getRotor(0) = 1; setWeight(0, 1, 1) = 1; getRotor(0) = 1; undo() = 4; getRotor(0) = 2");
        due("35, taking back", "makeRing(1) = 4; setWeight(0, 2, 1) = 0; turn(1) = 2; getRotor(0) = 2;",
                "setWeight(1, 3, 1) = 0; getRotor(0) = 2; undo() = 5; getRotor(0) = 2; undo() = 4;",
                "getRotor(0) = 1; getRotor(2) = 1");
    }

    private void fewEdges() {
        due("36", "choose(0, 1, 12) = 0; choose(1, 0, 5) = 12; choose(0, 1, 13) = ", ARGUMENT,
                "choose(0, 1, -1) = ", ARGUMENT, "choose(2, 2, 13) = ", ARGUMENT, "choose(0, 4, 13) = ",
                BOUNDS, "choose(4, 4, 1) = ", BOUNDS, "setWeight(0, 1, 1) = 0; setWeight(0, 1, 0) = 1;",
                "choose(0, 1, 0) = 5; choose(0, 1, 1) = 0; choose(2, 3, 0) = 0");
        due("37", "standsFor(0) = ", ARGUMENT, "standsFor(4) = ", ARGUMENT, "standsFor(1) = true;",
                "setWeight(0, 1, 2) = 0; standsFor(3) = false; choose(0, 1, 1) = 0;",
                "standsFor(1) = false; standsFor(2) = true; choose(0, 1, 2) = 1; standsFor(1) = true;",
                "choose(0, 1, 5) = 2; standsFor(2) = false; standsFor(3) = true; choose(0, 1, 7) = 5;",
                "standsFor(3) = false; setWeight(0, 1, 3) = 2; standsFor(3) = true;",
                "choose(2, 3, 1) = 0; standsFor(3) = false");
        // All values of the triangle but 0 are 3, those of a line with weights a are a and 3 a.
        due("37, a line for a triangle", TRIANGLE, "choose(0, 1, 1) = 0; choose(1, 2, 1) = 0;",
                "standsFor(2) = false; standsFor(3) = true; choose(0, 1, 2) = 1; choose(1, 2, 2) = 1;",
                "standsFor(1) = false; standsFor(2) = true; choose(0, 1, 3) = 2; choose(1, 2, 3) = 2;",
                "standsFor(2) = false; standsFor(3) = true; choose(0, 1, 4) = 3; choose(1, 2, 4) = 3;",
                "standsFor(3) = false");
        due("37, all edges of 7 places", Nets.full(7, 4), Nets.allChosen(7, 12),
                "standsFor(3) = true; standsFor(2) = false;",
                "setWeight(5, 6, 3) = 4; standsFor(3) = false; choose(5, 6, 10) = 12;",
                "standsFor(3) = false; choose(5, 6, 9) = 10; standsFor(3) = true");
    }

    private void cuts() {
        due("38", "setWeight(0, 1, 3) = 0; setWeight(2, 3, 2) = 0; setWeight(0, 3, 1) = 0;",
                "getCut(1) = 4; getCut(3) = 1; getCut(12) = 1; getCut(5) = 6; getCut(14) = 4;",
                "getCut(0) = ", ARGUMENT, "getCut(15) = ", ARGUMENT, "getCut(16) = ", ARGUMENT,
                "getCut(17) = ", ARGUMENT, "getCut(-1) = ", ARGUMENT, "getCut(-2147483648) = ", ARGUMENT);
        due("39, 40", "getShare(true) = ", ELEMENT, "getBest() = ", ELEMENT, "setWeight(1, 3, 2) = 0;",
                "getBest() = 2; getShare(true) = 1; getShare(false) = 1; setWeight(0, 2, 1) = 0;",
                "getBest() = 5; getShare(true) = 0; getShare(false) = 1; setWeight(0, 1, 1) = 0;",
                "getBest() = 5; getShare(true) = 1; getShare(false) = 3");
        due("39, 40, the first of several", "makeRing(2) = 4; getBest() = 3; getShare(true) = 1;",
                "getShare(false) = 2; clear(3) = 4; makeRing(3) = 3; getBest() = 1; getShare(true) = 1;",
                "getShare(false) = 1; clear(2) = 3; makeRing(1) = 1; getBest() = 1");
    }

    private void values() {
        due("41", TRIANGLE, "countAbove(-1) = 3; countAbove(0) = 2; countAbove(2) = 2;",
                "countAbove(3) = 0; countAbove(60) = 0; countAbove(61) = ", ARGUMENT,
                "countAbove(-2) = ", ARGUMENT, "clear(4) = 3;", LINE, "countAbove(0) = 3;",
                "countAbove(1) = 2; countAbove(2) = 1; countAbove(3) = 1; countAbove(4) = 0;",
                "setWeight(1, 2, 0) = 1; countAbove(0) = 2; countAbove(1) = 2; countAbove(2) = 0");
        due("42", TRIANGLE, "getCoefficient(3) = 1; getCoefficient(2) = -6; getCoefficient(1) = 9;",
                "getCoefficient(0) = 0; getCoefficient(4) = ", ARGUMENT, "getCoefficient(-1) = ", ARGUMENT,
                "clear(4) = 3; getCoefficient(4) = 1; getCoefficient(3) = 0; getCoefficient(1) = 0;",
                "setWeight(0, 1, 4) = 0; getCoefficient(3) = -8; getCoefficient(2) = 0");
        // All values but 0 are 28.
        due("41, 42, all edges of 7 places", Nets.full(7, 4), "countAbove(0) = 6;",
                "countAbove(27) = 6; countAbove(28) = 0; getCoefficient(7) = 1;",
                "getCoefficient(6) = -168; getCoefficient(5) = 11760; getCoefficient(1) = 481890304;",
                "getCoefficient(0) = 0; getTime(0, 6, true) = 6; getTime(0, 6, false) = 1");
    }

    private void sums() {
        due("43", "getMeanDegree() = 0.0; setWeight(0, 1, 1) = 0; getMeanDegree() = 0.5; clear(3) = 4;",
                "setWeight(0, 1, 1) = 0; getMeanDegree() = 0.6666667; makeRing(4) = 3;",
                "getMeanDegree() = 8.0");
        due("45", "clear(2) = 4; checksum() = " + sumOf(0, 0, 0, 0, 0, 0, 1), ";",
                "setWeight(0, 1, 1) = 0;",
                "setChips(0, 2) = 0; setChips(1, 3) = 0; putWalker(true, 1) = 0; turn(1) = 1;",
                "seed(2147483646) = 1; checksum() = " + sumOf(1, 2, 3, 1, 0, 1, 2147483646), ";",
                "putWalker(true, 0) = 1; putWalker(false, 1) = 0; turn(1) = 0;",
                "checksum() = " + sumOf(1, 2, 3, 0, 1, 0, 2147483646));
        due("46", "isSound() = true;", LINE, "isSound() = true; drawTree(2) = 5; isSound() = true;",
                "makeRing(3) = 4; isSound() = true; setWeight(0, 2, 2) = 0; isSound() = true;",
                "setWeight(0, 1, 0) = 3; setWeight(1, 2, 0) = 3; isSound() = true; clear(7) = 4;",
                "makeRing(4) = 7; isSound() = true; clear(2) = 7; isSound() = true");
    }

    private static long sumOf(int... numbers) {
        long sum = 7;
        for (int number : numbers) {
            sum = 31 * sum + number;
        }
        return sum;
    }

    /** Every place of every call is looked at, at both ends and far out. */
    private void wrongPlaces() {
        String[] calls = {
            "setWeight(0, #, 1)", "setWeight(#, 0, 1)", "getWeight(#, 1)", "getWeight(1, #)",
            "getDegree(#)", "getPair(#, 1)", "getPair(1, #)", "getTime(#, 1, true)",
            "getTime(1, #, false)", "getReturn(#, true)", "getChance(#, 0, 1, true)",
            "getChance(0, #, 1, true)", "getChance(0, 1, #, true)", "getEscape(#, 1, true)",
            "getEscape(1, #, true)", "countWalks(#, 0, 99)", "countWalks(0, #, 99)",
            "getResistance(#, 0, true)", "getResistance(0, #, true)", "countTreesWith(#, 0)",
            "countTreesWith(0, #)", "drawTree(#)", "putWalker(true, #)", "putWalker(false, #)",
            "setChips(#, 100)", "getChips(#)", "setSink(#)", "fire(#)", "getRotor(#)",
            "choose(#, 0, 13)", "choose(0, #, 13)", "getOhms(#, 1)", "getOhms(1, #)",
        };
        String[] wrong = {"-2147483648", "-1", "#", "7", "2147483647"};
        for (int places = 2; places <= 7; places++) {
            for (String call : calls) {
                for (String place : wrong) {
                    String far = place.equals("#") ? Integer.toString(places) : place;
                    due("a wrong place", "clear(" + places + ") = 4;", call.replace("#", far), " = ", BOUNDS);
                }
            }
        }
    }
}
