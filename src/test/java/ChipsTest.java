/** The terms "Chips" and "Rotors", sentence by sentence. */
public final class ChipsTest {
    private static final String TRIANGLE = "clear(3); makeRing(1); ";

    private final Checks checks = new Checks();

    private ChipsTest() {
    }

    public static void main(String[] args) {
        ChipsTest test = new ChipsTest();
        test.chipsOfPlaces();
        test.oneSink();
        test.asManyAsTheDegree();
        test.degreesAboveZero();
        test.asManyAsTheWeight();
        test.whatComesToTheSink();
        test.ninetyNineAtMost();
        test.settlingFiresTheLowest();
        test.ninetyNineMeanwhile();
        test.countsOfFirings();
        test.settlingOfJoinedGraphs();
        test.stableStates();
        test.recurrentStates();
        test.recurrentStatesAreCounted();
        test.threeThousandStates();
        test.rotorsAtFirst();
        test.rotorsGoRound();
        test.rotorsAsWeightsChange();
        test.particles();
        test.checks.end("ChipsTest");
    }

    private void due(String name, String... lines) {
        Runs.due(checks, name, lines);
    }

    private static String chips(int place, int count) {
        return "setChips(" + place + ", " + count + "); ";
    }

    private void chipsOfPlaces() {
        for (int places = 2; places <= 7; places++) {
            for (int place = 0; place < places; place++) {
                String at = "(" + place;
                due("0 to 99, 0 at first", Nets.clear(places), "getChips" + at + ") = 0; setChips" + at,
                        ", 99) = 0; setChips" + at + ", 100) =", Runs.ARGUMENT, "setChips" + at + ", -1) =",
                        Runs.ARGUMENT, "getChips" + at + ") = 99; setChips" + at + ", 1) = 99;",
                        "setChips" + at + ", 0) = 1; getChips" + at + ") = 0");
            }
        }
    }

    private void oneSink() {
        due("0 at first", TRIANGLE, "setChips(0, 99); fire(0) =", Runs.OPERATION, "setSink(0) = 0;",
                "setSink(2) = 0; fire(0) = 97; getChips(2) = 0; getChips(1) = 1; setSink(1) = 2;",
                "setChips(2, 2) = 0; fire(2) = 0; getChips(0) = 98; getChips(1) = 1; setSink(3) =",
                Runs.BOUNDS, "setSink(-1) =", Runs.BOUNDS, "setSink(0) = 1");
        due("the sink cannot fire", TRIANGLE, "setSink(2); setChips(2, 99); fire(2) =", Runs.OPERATION,
                "getState() = 's'; settle() = 0; getChips(2) = 99");
    }

    private void asManyAsTheDegree() {
        for (int places = 3; places <= 7; places++) {
            int degree = 4 * (places - 1);
            String full = Nets.full(places, 4);
            due("one less", full, chips(1, degree - 1), "fire(1) =", Runs.OPERATION, "settle() = 0;",
                    "getChips(1) = " + (degree - 1));
            due("as many", full, chips(1, degree), "fire(1) = 0; getChips(2) = 4; fire(1) =",
                    Runs.OPERATION);
            due("one more", full, chips(1, degree + 1), "fire(1) = 1; fire(1) =", Runs.OPERATION);
        }
        due("one edge", "clear(2); makeRing(1); fire(1) =", Runs.OPERATION, "setChips(1, 1); fire(1) = 0;",
                "getChips(0) = 0");
    }

    private void degreesAboveZero() {
        due("a place without an edge", "setChips(1, 99); fire(1) =", Runs.OPERATION, "setChips(1, 0);",
                "fire(1) =", Runs.OPERATION, "setWeight(1, 3, 1); fire(1) =", Runs.OPERATION,
                "setChips(1, 1); fire(1) = 0; getChips(3) = 1");
    }

    private void asManyAsTheWeight() {
        due("each neighbour", "clear(5); setWeight(1, 2, 4); setWeight(1, 3, 1); setWeight(0, 1, 2);",
                "setChips(1, 17) = 0; fire(1) = 10; getChips(2) = 4; getChips(3) = 1; getChips(4) = 0;",
                "getChips(0) = 0; fire(1) = 3; getChips(2) = 8; getChips(3) = 2; fire(1) =",
                Runs.OPERATION, "fire(2) = 4; getChips(1) = 7");
    }

    private void whatComesToTheSink() {
        due("it is gone", "clear(2); makeRing(3); setChips(0, 99); setChips(1, 7); fire(1) = 4;",
                "getChips(0) = 99; settle() = 1; getChips(0) = 99; getChips(1) = 1");
        due("as they were set", TRIANGLE, "setChips(0, 5); setChips(1, 9); settle(); getChips(0) = 5;",
                "setSink(1) = 0; getChips(0) = 5");
    }

    private void ninetyNineAtMost() {
        for (int weight = 1; weight <= 4; weight++) {
            String line = Nets.line(3, weight) + chips(1, 2 * weight);
            due("99 by a firing", line, chips(2, 99 - weight), "fire(1) = 0; getChips(2) = 99");
            due("100 by a firing", line, chips(2, 100 - weight), "fire(1) =", Runs.OPERATION,
                    "getChips(1) = " + 2 * weight, "; getChips(2) = " + (100 - weight));
        }
        due("any neighbour", "clear(4); setWeight(1, 2, 1); setWeight(1, 3, 1); setChips(1, 5);",
                "setChips(3, 99); fire(1) =", Runs.OPERATION, "getChips(2) = 0; setChips(3, 0);",
                "setChips(2, 99); fire(1) =", Runs.OPERATION, "getChips(3) = 0; setChips(2, 98);",
                "fire(1) = 3; getChips(3) = 1; getChips(2) = 99");
        for (int places = 3; places <= 7; places++) {
            for (int full = 0; full < places; full++) {
                int sink = full == 0 ? places - 1 : 0;
                int giver = full == 1 ? 2 : 1;
                String state = Nets.full(places, 1) + "setSink(" + sink + "); " + chips(giver, places);
                due("each place but the sink", state, chips(full, 99), "fire(" + giver + ") =",
                        Runs.OPERATION, chips(full, 98), "fire(" + giver + ") = 1;",
                        "getChips(" + full + ") = 99");
            }
        }
        due("no neighbour", Nets.line(4, 1), "setChips(3, 99); setChips(1, 2); fire(1) = 0; getChips(3) = 99");
        due("the sink has no bound", Nets.line(3, 4), "setChips(0, 99); setChips(1, 8); fire(1) = 0");
    }

    private void settlingFiresTheLowest() {
        // 1 fires 49 times; were 2 the first to fire, 1 would have 100.
        due("the lower one first", Nets.line(3, 1), "setChips(1, 99); setChips(2, 1); fire(2) =",
                Runs.OPERATION, "settle() = 199; getChips(1) = 1; getChips(2) = 0");
        // Were 2 the first to fire, it would have 98 when 1 fires.
        due("the higher one would be in time", Nets.line(3, 1), "setChips(1, 2); setChips(2, 99);",
                "settle() =", Runs.OPERATION, "fire(2) = 98; fire(1) = 1; getChips(2) = 99");
        // Were 2 to fire as often as it can, 1 would have 100.
        due("the lowest at each time", Nets.line(3, 1), "setChips(1, 1); setChips(2, 99);",
                "settle() = 297; getChips(1) = 1; getChips(2) = 0");
    }

    private void ninetyNineMeanwhile() {
        due("99 meanwhile", Nets.line(3, 1), "setChips(1, 2); setChips(2, 98); settle() = 296;",
                "getChips(1) = 1; getChips(2) = 0");
        due("100 meanwhile", Nets.line(3, 1), "setChips(1, 2); setChips(2, 99); settle() =",
                Runs.OPERATION, "getChips(1) = 2; getChips(2) = 99; getChips(0) = 0");
        due("100 behind some firings", Nets.line(3, 1), "setChips(0, 3); setChips(1, 99);",
                "setChips(2, 51); settle() =", Runs.OPERATION, "getChips(1) = 99; getChips(2) = 51;",
                "getChips(0) = 3; setChips(2, 50); settle()");
        due("99 to which nothing comes", Nets.line(4, 1), "setWeight(2, 3, 0); setWeight(0, 3, 4);",
                "setChips(3, 99); setChips(1, 2); settle() = 26; getChips(3) = 3; getChips(1) = 1");
        due("a sink that has 99", Nets.line(3, 1), "setSink(1); setChips(1, 99); setChips(2, 99);",
                "setChips(0, 99); settle() = 198; getChips(1) = 99; getChips(0) = 0; getChips(2) = 0");
    }

    private void countsOfFirings() {
        due("none can", TRIANGLE, "settle() = 0; setChips(1, 1); setChips(2, 1); settle() = 0;",
                "getChips(1) = 1; getChips(2) = 1");
        for (int count = 0; count <= 99; count++) {
            due("one place beside the sink", "clear(2); makeRing(4);", chips(1, count),
                    "settle() = " + count / 4, "; getChips(1) = " + count % 4, "; settle() = 0");
        }
        due("as fire by fire", TRIANGLE, "setChips(1, 3); setChips(2, 1); fire(1) = 1; fire(2) = 0;",
                "fire(1) = 0; fire(1) =", Runs.OPERATION, "fire(2) =", Runs.OPERATION, "getChips(2) = 1;",
                "getState() = 'r'");
    }

    private void settlingOfJoinedGraphs() {
        for (int places = 2; places <= 7; places++) {
            int last = places - 1;
            for (String call : new String[] {"settle()", "getState()", "countRecurrent()"}) {
                due("not joined", Nets.line(places, 1), "setWeight(" + (last - 1) + ", " + last + ", 0);",
                        chips(last, 3), call, "=", Runs.OPERATION);
                due("no edges", Nets.clear(places), call, "=", Runs.OPERATION);
            }
            due("joined", Nets.line(places, 1), "settle() = 0; countRecurrent() = 1; getState() = "
                    + (places == 2 ? "'r'" : "'s'"));
        }
    }

    private void stableStates() {
        for (int places = 3; places <= 7; places++) {
            for (int place = 1; place < places; place++) {
                int degree = 2 * (places - 1);
                String full = Nets.full(places, 2);
                String stable = places == 3 ? "'r'" : "'s'";
                due("below its degree", full, chips(place, degree - 1), "getState() = " + stable);
                due("as many as its degree", full, chips(place, degree), "getState() = 'u'; settle();",
                        "getState() = " + stable);
                due("the sink", full, "setSink(" + place + "); " + chips(place, 99), "getState() = 's'");
            }
        }
    }

    private void recurrentStates() {
        due("a triangle", TRIANGLE, "getState() = 's'; setChips(1, 1); getState() = 'r'; setChips(2, 1);",
                "getState() = 'r'; setChips(1, 0); getState() = 'r'; setChips(1, 2); getState() = 'u'");
        for (int places = 3; places <= 7; places++) {
            for (int centre = 0; centre < places; centre++) {
                int sink = centre == 0 ? 1 : 0;
                due("one place alone is not the same", Nets.star(places, centre, 1),
                        "setSink(" + sink + "); getState() = 's';", chips(centre, places - 3),
                        "getState() = 's';", chips(centre, places - 2),
                        "getState() = 'r'");
            }
        }
        due("whatever the sink has", TRIANGLE, "setChips(0, 99); getState() = 's'; setChips(1, 1);",
                "getState() = 'r'; getChips(0) = 99; getChips(1) = 1; getChips(2) = 0");
        due("by the weight to the sink", "clear(3); setWeight(0, 1, 2); setWeight(1, 2, 1);",
                "getState() = 's'; setChips(1, 1); getState() = 'r'; setChips(1, 2); getState() = 'r';",
                "setWeight(0, 2, 1); getState() = 'r'; setChips(1, 1); getState() = 'r'; setChips(1, 0);",
                "getState() = 's'; setChips(2, 1); getState() = 'r'; setChips(1, 1); getState() = 'r'");
        due("by the sink", Nets.line(3, 1), "setChips(1, 1); getState() = 'r'; setChips(1, 0);",
                "getState() = 's'; setSink(1); getState() = 'r'; setSink(2); getState() = 's';",
                "setChips(0, 1); getState() = 'u'; setSink(0); getState() = 's'");
        due("behind settling none is left to fire", Nets.full(7, 4), "setChips(1, 23); setChips(2, 23);",
                "setChips(3, 23); setChips(4, 23); setChips(5, 23); setChips(6, 23); getState() = 'r';",
                "setChips(6, 24); getState() = 'u'; setChips(6, 0); getState() = 'r'; setChips(5, 3);",
                "getState() = 's'; setChips(5, 4); getState() = 'r'; getChips(4) = 23");
    }

    /** All states below the degrees are asked, one object for each that the first place has. */
    private void recurrentStatesAreCounted() {
        String[] graphs = {
            "clear(3); makeRing(2); ", "clear(3); setWeight(0, 1, 1); setWeight(1, 2, 4); ",
            "clear(3); setWeight(0, 1, 3); setWeight(1, 2, 1); setWeight(0, 2, 2); ",
            "clear(2); makeRing(4); ", "clear(3); makeRing(4); ",
        };
        for (String graph : graphs) {
            boolean isPair = graph.startsWith("clear(2)");
            int[] degrees = new int[3];
            for (int place = 0; place < (isPair ? 2 : 3); place++) {
                degrees[place] = Integer.parseInt(Runs.last(graph, "getDegree(" + place + ")"));
            }
            int count = 0;
            for (int one = 0; one < degrees[1]; one++) {
                for (int other = 0; other < Math.max(1, degrees[2]); other++) {
                    String state = Runs.last(graph, chips(1, one), isPair ? "" : chips(2, other),
                            "getState()");
                    count += state.equals("'r'") ? 1 : 0;
                }
            }
            due("as many as getState tells", graph, "setChips(1, 50); countRecurrent() = " + count,
                    "; countTrees() = " + count, "; getChips(1) = 50; setSink(1);",
                    "countRecurrent() = " + count);
        }
    }

    private void threeThousandStates() {
        // Degrees 12, 10, 5 and 5.
        String most = "clear(5); setWeight(0, 1, 2); setWeight(0, 2, 2); setWeight(1, 2, 4); "
                + "setWeight(1, 3, 4); setWeight(1, 4, 2); setWeight(2, 3, 1); setWeight(2, 4, 3); ";
        due("3000 stable states", most, "getDegree(1) = 12; getDegree(2) = 10; getDegree(3) = 5;",
                "getDegree(4) = 5; countRecurrent() = " + Runs.last(most, "countTrees()"));
        // Degrees 7, 3, 11 and 13.
        String more = "clear(5); setWeight(0, 1, 1); setWeight(0, 3, 4); setWeight(0, 4, 3); "
                + "setWeight(1, 3, 2); setWeight(1, 4, 4); setWeight(2, 3, 1); setWeight(2, 4, 2); "
                + "setWeight(3, 4, 4); ";
        due("3003 stable states", more, "getDegree(1) = 7; getDegree(2) = 3; getDegree(3) = 11;",
                "getDegree(4) = 13; countRecurrent() =", Runs.OPERATION, "setSink(1);",
                "countRecurrent() =", Runs.OPERATION, "setSink(3);",
                "countRecurrent() = " + Runs.last(more, "countTrees()"));
        // Degrees 5, 6, 5, 4 and 5.
        String six = "clear(6); setWeight(0, 1, 1); setWeight(0, 3, 3); setWeight(0, 5, 1); "
                + "setWeight(1, 2, 1); setWeight(1, 4, 3); setWeight(2, 3, 1); setWeight(2, 4, 1); "
                + "setWeight(2, 5, 3); setWeight(3, 5, 1); ";
        due("3000 of 6 places", six, "countRecurrent() = " + Runs.last(six, "countTrees()"),
                "; setSink(1); countRecurrent() = " + Runs.last(six, "countTrees()"),
                "; setSink(4); countRecurrent() =", Runs.OPERATION);
        due("4 places never have so many", Nets.full(4, 4), "countRecurrent() = 1024");
        due("far more", Nets.full(7, 4), "countRecurrent() =", Runs.OPERATION, "clear(7);",
                "makeRing(1); countRecurrent() = 7; makeRing(2); countRecurrent() =", Runs.OPERATION);
    }

    private void rotorsAtFirst() {
        for (int places = 2; places <= 7; places++) {
            StringBuilder calls = new StringBuilder(Nets.full(places, 1));
            for (int place = 0; place < places; place++) {
                calls.append("getRotor(").append(place).append(") = ").append(place == 0 ? 1 : 0);
                calls.append("; ");
            }
            due("the lowest neighbour", calls.toString(), "getRotor(" + places + ") =", Runs.BOUNDS,
                    "getRotor(-1) =", Runs.BOUNDS, Nets.line(places, 2),
                    "getRotor(" + (places - 1) + ") = " + (places - 2));
        }
        due("each place with a neighbour", "clear(7); setWeight(2, 6, 1); getRotor(2) = 6; getRotor(6) = 2;",
                "getRotor(0) =", Runs.ELEMENT, "getRotor(5) =", Runs.ELEMENT, "setWeight(2, 6, 0);",
                "getRotor(2) =", Runs.ELEMENT, "getRotor(6) =", Runs.ELEMENT);
    }

    private void rotorsGoRound() {
        for (int places = 3; places <= 7; places++) {
            StringBuilder calls = new StringBuilder(Nets.star(places, 0, 4)).append("setWeight(0, 1, 1); ");
            for (int step = 0; step < 2 * places; step++) {
                int next = 1 + (step + 1) % (places - 1);
                calls.append("turn(1) = ").append(next).append("; getRotor(0) = ").append(next);
                calls.append("; turn(1) = 0; getRotor(").append(next).append(") = 0; ");
            }
            due("round by numbers, whatever the weight", calls.toString());
        }
        due("past a place that is no neighbour", "clear(7); setWeight(0, 2, 4); setWeight(0, 5, 1);",
                "getRotor(0) = 2; turn(1) = 5; turn(1) = 0; turn(1) = 2; turn(1) = 0; turn(1) = 5");
        due("the only neighbour", "clear(2); makeRing(3); turn(1) = 1; getRotor(0) = 1; turn(1) = 0;",
                "getRotor(1) = 0; turn(1) = 1");
    }

    private void rotorsAsWeightsChange() {
        String turned = "clear(4); setWeight(0, 1, 1); setWeight(0, 2, 1); setWeight(0, 3, 1); "
                + "setWeight(1, 2, 1); turn(1) = 2; getRotor(0) = 2; turn(1) = 1; getRotor(2) = 1; "
                + "turn(1) = 2; getRotor(1) = 2; ";
        due("at the one end", turned, "setWeight(0, 3, 2) = 1; getRotor(0) = 1; getRotor(1) = 2;",
                "getRotor(2) = 1; getRotor(3) = 0");
        due("at the other end", turned, "setWeight(2, 0, 4) = 1; getRotor(0) = 1; getRotor(1) = 2;",
                "getRotor(2) = 0");
        due("at neither", turned, "setWeight(3, 2, 0) = 0; setWeight(1, 3, 0) = 0; getRotor(0) = 2;",
                "getRotor(1) = 2; getRotor(2) = 1");
        due("the neighbour is gone", turned, "setWeight(0, 1, 0) = 1; getRotor(0) = 2; getRotor(1) = 2;",
                "getRotor(2) = 1; undo(); getRotor(0) = 1; getRotor(1) = 0; getRotor(2) = 1");
        due("a lower neighbour comes", turned, "setWeight(2, 3, 1) = 0; getRotor(2) = 0;",
                "getRotor(3) = 0; getRotor(0) = 2; getRotor(1) = 2");
        due("a change that is refused", turned, "setWeight(0, 3, 5) =", Runs.ARGUMENT,
                "setWeight(0, 0, 1) =", Runs.ARGUMENT, "setWeight(0, 3, 1) = 1; getRotor(0) = 2;",
                "getRotor(2) = 1");
    }

    private void particles() {
        due("at 0 at first", "setWeight(1, 2, 1); turn(1) =", Runs.OPERATION, "turn(200) =",
                Runs.OPERATION, "setWeight(0, 2, 1); turn(1) = 2; turn(1) = 1; turn(1) = 2; turn(1) = 0");
        due("as many steps at once", "clear(5); makeRing(1); setWeight(0, 2, 1); setWeight(1, 4, 3);",
                "turn(6) = " + oneByOne("clear(5); makeRing(1); setWeight(0, 2, 1); setWeight(1, 4, 3); ", 6),
                "; turn(194) = "
                + oneByOne("clear(5); makeRing(1); setWeight(0, 2, 1); setWeight(1, 4, 3); ", 200));
        due("1 to 200", "clear(2); makeRing(1); turn(200) = 0; turn(199) = 1; turn(1) = 0; turn(0) =",
                Runs.ARGUMENT, "turn(201) =", Runs.ARGUMENT, "turn(1) = 1");
        due("its neighbour is gone", "clear(3); makeRing(1); turn(1) = 2; setWeight(0, 2, 0);",
                "setWeight(1, 2, 0); turn(1) =", Runs.OPERATION, "undo(); turn(1) = 1; clear(3);",
                "turn(1) =", Runs.OPERATION, "makeRing(1); turn(1) = 2");
    }

    private static String oneByOne(String graph, int steps) {
        return Runs.last(graph, "turn(1); ".repeat(steps));
    }
}
