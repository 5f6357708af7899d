import java.math.BigInteger;

/** The terms "Walks" and "Currents", sentence by sentence. */
public final class WalksTest {
    /** Graphs whose numbers have no simple form, for sentences that hold for all of them. */
    private static final String[] GRAPHS = {
        "clear(3); setWeight(0, 1, 1); setWeight(1, 2, 2); setWeight(0, 2, 4); ",
        "clear(4); setWeight(0, 1, 3); setWeight(1, 2, 1); setWeight(2, 3, 2); setWeight(0, 2, 4); ",
        "clear(5); setWeight(0, 4, 1); setWeight(4, 2, 3); setWeight(2, 1, 2); setWeight(1, 3, 4); "
            + "setWeight(3, 0, 1); setWeight(3, 4, 2); ",
        "clear(7); makeRing(3); setWeight(0, 3, 1); setWeight(1, 5, 4); setWeight(2, 6, 2); "
            + "setWeight(2, 3, 0); ",
        "clear(7); makeRing(4); setWeight(0, 2, 4); setWeight(0, 3, 4); setWeight(1, 3, 4); "
            + "setWeight(2, 6, 4); setWeight(1, 5, 3); ",
    };
    private static final int[] PLACES = {3, 4, 5, 7, 7};

    private final Checks checks = new Checks();

    private WalksTest() {
    }

    public static void main(String[] args) {
        WalksTest test = new WalksTest();
        test.chancesOfSteps();
        test.timesOfKnownGraphs();
        test.timesByTheNextStep();
        test.noTimeToTheSamePlace();
        test.timesOfReturn();
        test.chancesAtBothEnds();
        test.chancesOfEscape();
        test.joinedGraphsAlone();
        test.walksBySteps();
        test.walksThatGoRound();
        test.resistances();
        test.resistancesAndTimes();
        test.powers();
        test.ohms();
        test.checks.end("WalksTest");
    }

    private void due(String name, String... lines) {
        Runs.due(checks, name, lines);
    }

    private static Ratio fraction(String setUp, String call) {
        long above = Long.parseLong(Runs.last(setUp, call.replace("#", "true")));
        long below = Long.parseLong(Runs.last(setUp, call.replace("#", "false")));
        return Ratio.of(above, below);
    }

    private static int number(String setUp, String call) {
        return Integer.parseInt(Runs.last(setUp, call));
    }

    private static String fractionDue(String call, long above, long below) {
        return call.replace("#", "true") + " = " + above + "; " + call.replace("#", "false") + " = "
                + below + "; ";
    }

    private void chancesOfSteps() {
        String uneven = "clear(3); setWeight(0, 1, 1); setWeight(1, 2, 3); ";
        due("the weight by the degree", uneven, fractionDue("getChance(1, 0, 2, #)", 1, 4),
                fractionDue("getChance(1, 2, 0, #)", 3, 4), fractionDue("getTime(1, 2, #)", 5, 3),
                fractionDue("getTime(1, 0, #)", 7, 1), fractionDue("getTime(0, 2, #)", 8, 3),
                fractionDue("getReturn(0, #)", 8, 1), fractionDue("getReturn(1, #)", 2, 1),
                fractionDue("getReturn(2, #)", 8, 3), fractionDue("getEscape(0, 2, #)", 3, 4),
                fractionDue("getEscape(1, 0, #)", 1, 4), fractionDue("getEscape(2, 0, #)", 1, 4));
    }

    private void timesOfKnownGraphs() {
        for (int places = 2; places <= 7; places++) {
            int last = places - 1;
            for (int weight = 1; weight <= 4; weight++) {
                due("on a line", Nets.line(places, weight),
                        fractionDue("getTime(0, " + last + ", #)", last * last, 1),
                        fractionDue("getTime(" + last + ", 0, #)", last * last, 1));
                due("if all are neighbours", Nets.full(places, weight),
                        fractionDue("getTime(0, " + last + ", #)", last, 1),
                        fractionDue("getTime(" + last + ", 0, #)", last, 1));
                due("on a star", Nets.star(places, 0, weight),
                        fractionDue("getTime(0, " + last + ", #)", 2 * last - 1, 1),
                        fractionDue("getTime(" + last + ", 0, #)", 1, 1));
            }
        }
    }

    private void timesByTheNextStep() {
        for (int graph = 0; graph < GRAPHS.length; graph++) {
            String setUp = GRAPHS[graph];
            for (int to = 0; to < PLACES[graph]; to++) {
                for (int from = 0; from < PLACES[graph]; from++) {
                    Ratio sum = Ratio.ONE;
                    for (int next = 0; next < PLACES[graph]; next++) {
                        Ratio time = fraction(setUp, "getTime(" + next + ", " + to + ", #)");
                        sum = sum.plus(time.times(step(setUp, from, next)));
                    }
                    String call = from == to ? "getReturn(" + to + ", #)"
                            : "getTime(" + from + ", " + to + ", #)";
                    checks.due(setUp + call, fraction(setUp, call).compareTo(sum), 0);
                }
            }
        }
    }

    /** The chance of one step. */
    private static Ratio step(String setUp, int from, int to) {
        if (from == to) {
            return Ratio.ZERO;
        }
        return Ratio.of(number(setUp, "getWeight(" + from + ", " + to + ")"),
                number(setUp, "getDegree(" + from + ")"));
    }

    private void noTimeToTheSamePlace() {
        for (int graph = 0; graph < GRAPHS.length; graph++) {
            for (int place = 0; place < PLACES[graph]; place++) {
                due("0 for the same one", GRAPHS[graph],
                        fractionDue("getTime(" + place + ", " + place + ", #)", 0, 1));
            }
        }
    }

    private void timesOfReturn() {
        for (int places = 2; places <= 7; places++) {
            due("if all are neighbours", Nets.full(places, 3), fractionDue("getReturn(0, #)", places, 1));
            due("at both ends of a line", Nets.line(places, 2),
                    fractionDue("getReturn(0, #)", 2 * (places - 1), 1),
                    fractionDue("getReturn(" + (places - 1) + ", #)", 2 * (places - 1), 1));
        }
    }

    private void chancesAtBothEnds() {
        for (int graph = 0; graph < GRAPHS.length; graph++) {
            for (int one = 0; one < PLACES[graph]; one++) {
                for (int other = 0; other < PLACES[graph]; other++) {
                    if (one != other) {
                        String pair = ", " + one + ", " + other + ", #)";
                        due("1 from the one, 0 from the other", GRAPHS[graph],
                                fractionDue("getChance(" + one + pair, 1, 1),
                                fractionDue("getChance(" + other + pair, 0, 1));
                        checkChances(graph, one, other);
                    }
                }
            }
        }
    }

    /** From a third place it is what it is from the next one, and both chances are 1 together. */
    private void checkChances(int graph, int one, int other) {
        String setUp = GRAPHS[graph];
        String pair = ", " + one + ", " + other + ", #)";
        for (int from = 0; from < PLACES[graph]; from++) {
            Ratio chance = fraction(setUp, "getChance(" + from + pair);
            Ratio back = fraction(setUp, "getChance(" + from + ", " + other + ", " + one + ", #)");
            checks.due("both chances", chance.plus(back).compareTo(Ratio.ONE), 0);
            if (from != one && from != other) {
                Ratio sum = Ratio.ZERO;
                for (int next = 0; next < PLACES[graph]; next++) {
                    sum = sum.plus(fraction(setUp, "getChance(" + next + pair)
                            .times(step(setUp, from, next)));
                }
                checks.due("the chance by the next step", chance.compareTo(sum), 0);
            }
        }
    }

    private void chancesOfEscape() {
        for (int graph = 0; graph < GRAPHS.length; graph++) {
            String setUp = GRAPHS[graph];
            for (int from = 0; from < PLACES[graph]; from++) {
                for (int to = 0; to < PLACES[graph]; to++) {
                    if (from == to) {
                        continue;
                    }
                    Ratio sum = Ratio.ZERO;
                    for (int next = 0; next < PLACES[graph]; next++) {
                        String ahead = "getChance(" + next + ", " + to + ", " + from + ", #)";
                        sum = sum.plus(fraction(setUp, ahead).times(step(setUp, from, next)));
                    }
                    String call = "getEscape(" + from + ", " + to + ", #)";
                    checks.due(setUp + call, fraction(setUp, call).compareTo(sum), 0);
                }
            }
        }
        for (int places = 2; places <= 7; places++) {
            due("along a line, and to the only neighbour", Nets.line(places, 4),
                    fractionDue("getEscape(0, " + (places - 1) + ", #)", 1, places - 1),
                    fractionDue("getEscape(0, 1, #)", 1, 1));
        }
    }

    private void joinedGraphsAlone() {
        String[] calls = {
            "getTime(0, 1, true)", "getTime(1, 0, false)", "getTime(0, 0, true)", "getTime(1, 1, false)",
            "getReturn(0, true)", "getReturn(1, false)", "getChance(0, 0, 1, true)",
            "getChance(1, 0, 1, false)", "getEscape(0, 1, true)", "getEscape(1, 0, false)",
            "getResistance(0, 1, true)", "getResistance(1, 0, false)", "getOhms(0, 1)",
        };
        for (int places = 2; places <= 7; places++) {
            String cut = "setWeight(" + (places - 2) + ", " + (places - 1) + ", 0); ";
            for (String call : calls) {
                String got = Runs.last(Nets.line(places, 1), call);
                checks.due("joined: " + call, got.startsWith("throws."), false);
                due("not joined", Nets.line(places, 1), cut, call, "=", Runs.OPERATION);
                due("no edges", Nets.clear(places), call, "=", Runs.OPERATION);
            }
            due("walks are counted there, too", Nets.line(places, 1), cut, "countWalks(0, 0, 0) = 1;",
                    "countWalks(0, 1, 1) = " + (places == 2 ? 0 : 1));
        }
    }

    private void walksBySteps() {
        due("no step", "countWalks(0, 0, 0) = 1; countWalks(0, 1, 0) = 0; countWalks(3, 3, 0) = 1;",
                "countWalks(0, 0, 1) = 0; countWalks(0, 0, 40) = 0; countWalks(0, 0, 41) =",
                Runs.ARGUMENT, "countWalks(0, 0, -1) =", Runs.ARGUMENT);
        due("by the product of the weights", "clear(4); setWeight(0, 1, 2); setWeight(1, 2, 3);",
                "setWeight(2, 3, 4); countWalks(0, 1, 1) = 2; countWalks(0, 2, 2) = 6;",
                "countWalks(2, 0, 2) = 6; countWalks(0, 3, 3) = 24; countWalks(0, 3, 2) = 0;",
                "countWalks(1, 1, 2) = 13; countWalks(0, 0, 2) = 4; countWalks(0, 3, 4) = 0;",
                "countWalks(0, 3, 5) = 696");
        for (int graph = 0; graph < GRAPHS.length; graph++) {
            String setUp = GRAPHS[graph];
            for (int steps = 1; steps <= 40; steps += 13) {
                long sum = 0;
                for (int next = 1; next < PLACES[graph]; next++) {
                    long weight = number(setUp, "getWeight(0, " + next + ")");
                    sum += weight * Long.parseLong(
                            Runs.last(setUp, "countWalks(" + next + ", 1, " + (steps - 1) + ")"));
                }
                due("by the next step", setUp, "countWalks(0, 1, " + steps + ") = " + sum,
                        "; countWalks(1, 0, " + steps + ") = " + sum);
            }
        }
    }

    private void walksThatGoRound() {
        due("just below and just above a long", "clear(2); makeRing(3);",
                "countWalks(0, 1, 39) = 4052555153018976267; countWalks(0, 0, 39) = 0;",
                "countWalks(0, 0, 40) = -6289078614652622815; makeRing(4);",
                "countWalks(0, 1, 31) = 4611686018427387904; countWalks(0, 0, 32) = 0;",
                "countWalks(0, 1, 33) = 0; makeRing(2); countWalks(0, 0, 40) = 1099511627776");
        for (int places = 2; places <= 7; places++) {
            StringBuilder calls = new StringBuilder(Nets.full(places, 4));
            BigInteger great = BigInteger.valueOf(4L * (places - 1));
            BigInteger small = BigInteger.valueOf(-4);
            BigInteger all = BigInteger.valueOf(places);
            for (int steps = 0; steps <= 40; steps++) {
                BigInteger one = great.pow(steps).subtract(small.pow(steps)).divide(all);
                BigInteger same = one.add(small.pow(steps));
                calls.append("countWalks(0, 1, ").append(steps).append(") = ").append(one.longValue());
                calls.append("; countWalks(1, 1, ").append(steps).append(") = ");
                calls.append(same.longValue()).append("; ");
            }
            due("if all are neighbours", calls.toString());
        }
    }

    private void resistances() {
        for (int weight = 1; weight <= 4; weight++) {
            due("one edge", "clear(2); makeRing(" + weight + ");",
                    fractionDue("getResistance(0, 1, #)", 1, weight));
        }
        due("one behind the other", "clear(4); setWeight(0, 1, 1); setWeight(1, 2, 2); setWeight(2, 3, 4);",
                fractionDue("getResistance(0, 3, #)", 7, 4), fractionDue("getResistance(1, 3, #)", 3, 4));
        due("one beside the other", "clear(3); setWeight(0, 1, 1); setWeight(0, 2, 2);",
                "setWeight(1, 2, 2);", fractionDue("getResistance(0, 1, #)", 1, 2),
                fractionDue("getChance(2, 0, 1, #)", 1, 2));
        for (int places = 2; places <= 7; places++) {
            for (int weight = 1; weight <= 4; weight++) {
                Ratio full = Ratio.of(2, places * weight);
                due("if all are neighbours", Nets.full(places, weight),
                        fractionDue("getResistance(0, 1, #)", full.part(true), full.part(false)));
                Ratio line = Ratio.of(places - 1, weight);
                due("along a line", Nets.line(places, weight),
                        fractionDue("getResistance(" + (places - 1) + ", 0, #)", line.part(true),
                                line.part(false)));
            }
        }
    }

    private void resistancesAndTimes() {
        for (int graph = 0; graph < GRAPHS.length; graph++) {
            String setUp = GRAPHS[graph];
            int degrees = 0;
            for (int place = 0; place < PLACES[graph]; place++) {
                degrees += number(setUp, "getDegree(" + place + ")");
            }
            for (int one = 0; one < PLACES[graph]; one++) {
                for (int other = 0; other < one; other++) {
                    String pair = "(" + one + ", " + other + ", #)";
                    String back = "(" + other + ", " + one + ", #)";
                    Ratio resistance = fraction(setUp, "getResistance" + pair);
                    Ratio times = fraction(setUp, "getTime" + pair).plus(fraction(setUp, "getTime" + back));
                    checks.due("there and back", resistance.times(Ratio.of(degrees)).compareTo(times), 0);
                    checks.due("both ways",
                            resistance.compareTo(fraction(setUp, "getResistance" + back)), 0);
                }
            }
            due("as isSound tells", setUp, "isSound() = true");
        }
    }

    /** The power is the sum over the edges of the weight times the square of the fall. */
    private void powers() {
        for (int graph = 0; graph < GRAPHS.length; graph++) {
            String setUp = GRAPHS[graph];
            Ratio power = Ratio.ZERO;
            for (int one = 0; one < PLACES[graph]; one++) {
                for (int other = 0; other < one; other++) {
                    Ratio fall = fraction(setUp, "getChance(" + one + ", 0, 1, #)")
                            .minus(fraction(setUp, "getChance(" + other + ", 0, 1, #)"));
                    int weight = number(setUp, "getWeight(" + one + ", " + other + ")");
                    power = power.plus(fall.times(fall).times(Ratio.of(weight)));
                }
            }
            Ratio resistance = fraction(setUp, "getResistance(0, 1, #)");
            checks.due("the power is 1 by the resistance",
                    power.times(resistance).compareTo(Ratio.ONE), 0);
        }
    }

    private void ohms() {
        for (int graph = 0; graph < GRAPHS.length; graph++) {
            for (int one = 1; one < PLACES[graph]; one++) {
                String pair = "(0, " + one;
                Ratio resistance = fraction(GRAPHS[graph], "getResistance" + pair + ", #)");
                double ohms = (double) resistance.part(true) / (double) resistance.part(false);
                due("the one divided by the other", GRAPHS[graph], "getOhms" + pair + ") = " + ohms);
            }
        }
        due("some ohms", "clear(2); makeRing(1); getOhms(0, 1) = 1.0; makeRing(3);",
                "getOhms(1, 0) = 0.3333333333333333; makeRing(4); getOhms(0, 1) = 0.25; clear(7);",
                "makeRing(1); getOhms(0, 3) = 1.7142857142857142");
    }
}
