import java.util.NoSuchElementException;

/**
 * Graphs of 2 to 7 places through which walkers and currents go.
 *
 * <p>All rows are made with the object and used again, so that no call makes anything but the
 * exception that it throws.
 */
public final class Sparsewalk {
    private static final int FEWEST_PLACES = 2;
    private static final int MOST_PLACES = 7;
    private static final int FIRST_PLACES = 4;
    private static final int MOST_PAIRS = 21;
    private static final int MOST_WEIGHT = 4;
    private static final int MOST_PAST = 30;
    private static final int MOST_WALK_STEPS = 40;
    private static final int MOST_STEPS = 200;
    private static final int MOST_CHIPS = 99;
    private static final int MOST_STABLE_STATES = 3000;
    private static final int MOST_CHOSEN_WEIGHT = 12;
    private static final int MOST_FACTOR = 3;
    private static final int LEAST_NUMBER = -1;
    private static final int MOST_NUMBER = 60;
    private static final int MOST_SUMMED_TREES = 200;
    private static final int MODULUS = 2147483647;
    private static final int MULTIPLIER = 48271;
    /** Far above what any call needs; it only shows that a loop ends. */
    private static final int LOOP_BOUND = 1000000;

    private final Graph graph;
    private final Net net;
    private final Dice dice;
    private final Trees trees;
    private final Walkers walkers;
    private final Chips chips;
    private final Choice choice;
    private final Cuts cuts;
    private final Values values;

    public Sparsewalk() {
        graph = new Graph();
        net = new Net(graph);
        dice = new Dice(graph);
        trees = new Trees(graph, net, dice);
        walkers = new Walkers(graph, dice);
        chips = new Chips(graph);
        choice = new Choice();
        cuts = new Cuts(graph);
        values = new Values();
    }

    // ---- graphs.

    public int clear(int places) throws IllegalArgumentException {
        needRange(places, FEWEST_PLACES, MOST_PLACES);
        int before = graph.places;
        graph.empty(places);
        trees.empty();
        walkers.empty();
        chips.empty();
        choice.empty();
        return before;
    }

    public int setWeight(int one, int other, int weight)
            throws IndexOutOfBoundsException, IllegalArgumentException {
        needPair(one, other);
        needRange(weight, 0, MOST_WEIGHT);
        int before = graph.weights[one][other];
        tell(graph.pairOf(one, other), weight);
        return before;
    }

    public int getWeight(int one, int other)
            throws IndexOutOfBoundsException, IllegalArgumentException {
        needPair(one, other);
        return graph.weights[one][other];
    }

    public int undo() throws NoSuchElementException {
        if (graph.pastCount < 1) {
            throw new NoSuchElementException("no change can be taken back");
        }
        int slot = graph.dropPast();
        change(graph.pastPairs[slot], graph.pastWeights[slot]);
        return graph.pastCount;
    }

    public int getDegree(int place) throws IndexOutOfBoundsException {
        needPlace(place);
        return graph.degrees[place];
    }

    public boolean isJoined() {
        return graph.isWhole();
    }

    public int getPair(int one, int other)
            throws IndexOutOfBoundsException, IllegalArgumentException {
        needPair(one, other);
        return graph.pairOf(one, other);
    }

    public int makeRing(int weight) throws IllegalArgumentException {
        needRange(weight, 1, MOST_WEIGHT);
        int changed = 0;
        for (int pair = 0; pair < graph.pairs; pair++) {
            if (tell(pair, graph.isRingPair(pair) ? weight : 0)) {
                changed++;
            }
        }
        return changed;
    }

    // ---- walks and currents.

    public long getTime(int from, int to, boolean isAbove)
            throws IndexOutOfBoundsException, UnsupportedOperationException {
        needPlace(from);
        needPlace(to);
        needJoined();
        net.findTime(from, to);
        return net.part(isAbove);
    }

    public long getReturn(int place, boolean isAbove)
            throws IndexOutOfBoundsException, UnsupportedOperationException {
        needPlace(place);
        needJoined();
        net.findReturn(place);
        return net.part(isAbove);
    }

    public long getChance(int from, int one, int other, boolean isAbove)
            throws IndexOutOfBoundsException, IllegalArgumentException,
            UnsupportedOperationException {
        needPlace(from);
        needPair(one, other);
        needJoined();
        net.findChance(from, one, other);
        return net.part(isAbove);
    }

    public long getEscape(int from, int to, boolean isAbove)
            throws IndexOutOfBoundsException, IllegalArgumentException,
            UnsupportedOperationException {
        needPair(from, to);
        needJoined();
        net.findEscape(from, to);
        return net.part(isAbove);
    }

    public long countWalks(int from, int to, int steps)
            throws IndexOutOfBoundsException, IllegalArgumentException {
        needPlace(from);
        needPlace(to);
        needRange(steps, 0, MOST_WALK_STEPS);
        return walkers.sumWalks(from, to, steps);
    }

    public long getResistance(int one, int other, boolean isAbove)
            throws IndexOutOfBoundsException, IllegalArgumentException,
            UnsupportedOperationException {
        needPair(one, other);
        needJoined();
        net.findResistance(one, other);
        return net.part(isAbove);
    }

    // ---- trees.

    public long countTrees() {
        return net.sumForests(1, false);
    }

    public long countTreesWith(int one, int other)
            throws IndexOutOfBoundsException, IllegalArgumentException {
        needPair(one, other);
        // A tree with the edge is, without it, a forest with its two ends as roots.
        return graph.weights[one][other] * net.sumForests(1 << one | 1 << other, false);
    }

    public long countForests(int roots) throws IllegalArgumentException {
        needRange(roots, 1, graph.allPlaces());
        return net.sumForests(roots, false);
    }

    public int listTrees() {
        trees.beginList();
        return (int) net.sumForests(1, true);
    }

    public int nextTree() throws IllegalStateException, NoSuchElementException {
        if (!trees.isListing) {
            throw new IllegalStateException("no list of this graph was begun");
        }
        if (trees.ahead == Trees.NONE) {
            throw new NoSuchElementException("no tree is left");
        }
        return trees.takeListed();
    }

    public int drawTree(int root) throws IndexOutOfBoundsException, UnsupportedOperationException {
        needPlace(root);
        needJoined();
        return trees.drawFrom(root);
    }

    public int getDrawn() throws NoSuchElementException {
        if (trees.drawn == Trees.NONE) {
            throw new NoSuchElementException("no drawn tree is kept");
        }
        return trees.drawn;
    }

    public int seed(int z) throws IllegalArgumentException {
        needRange(z, 1, MODULUS - 1);
        int before = dice.z;
        dice.z = z;
        return before;
    }

    // ---- walkers, chips, rotors.

    public int putWalker(boolean isFirst, int place) throws IndexOutOfBoundsException {
        needPlace(place);
        int before = getWalker(isFirst);
        walkers.put(isFirst, place);
        return before;
    }

    public int walk(int steps) throws IllegalArgumentException, UnsupportedOperationException {
        needRange(steps, 1, MOST_STEPS);
        needNeighbour(walkers.first);
        needNeighbour(walkers.second);
        return walkers.walkUntilMet(steps);
    }

    public int getWalker(boolean isFirst) {
        return isFirst ? walkers.first : walkers.second;
    }

    public int setChips(int place, int chips)
            throws IndexOutOfBoundsException, IllegalArgumentException {
        needPlace(place);
        needRange(chips, 0, MOST_CHIPS);
        int before = this.chips.held[place];
        this.chips.held[place] = chips;
        return before;
    }

    public int getChips(int place) throws IndexOutOfBoundsException {
        needPlace(place);
        return chips.held[place];
    }

    public int setSink(int place) throws IndexOutOfBoundsException {
        needPlace(place);
        int before = chips.sink;
        chips.sink = place;
        return before;
    }

    public int fire(int place) throws IndexOutOfBoundsException, UnsupportedOperationException {
        needPlace(place);
        if (!chips.fireHeld(place)) {
            throw new UnsupportedOperationException("the place cannot fire");
        }
        return chips.held[place];
    }

    public int settle() throws UnsupportedOperationException {
        needJoined();
        int fired = chips.settleHeld();
        if (fired < 0) {
            throw new UnsupportedOperationException("a place would have too many chips");
        }
        return fired;
    }

    public char getState() throws UnsupportedOperationException {
        needJoined();
        if (!chips.isStable()) {
            return 'u';
        }
        return chips.isRecurrent() ? 'r' : 's';
    }

    public int countRecurrent() throws UnsupportedOperationException {
        needJoined();
        if (chips.countStable() > MOST_STABLE_STATES) {
            throw new UnsupportedOperationException("there are too many stable states");
        }
        // There are as many recurrent states as trees by their worths, whichever the sink.
        return (int) net.sumForests(1, false);
    }

    public int turn(int steps) throws IllegalArgumentException, UnsupportedOperationException {
        needRange(steps, 1, MOST_STEPS);
        needNeighbour(walkers.particle);
        return walkers.moveParticle(steps);
    }

    public int getRotor(int place) throws IndexOutOfBoundsException, NoSuchElementException {
        needPlace(place);
        if (graph.degrees[place] < 1) {
            throw new NoSuchElementException("the place has no neighbour");
        }
        return walkers.rotors[place];
    }

    // ---- few edges, cuts, values.

    public int choose(int one, int other, int weight)
            throws IndexOutOfBoundsException, IllegalArgumentException {
        needPair(one, other);
        needRange(weight, 0, MOST_CHOSEN_WEIGHT);
        int before = choice.weights[one][other];
        choice.put(one, other, weight);
        return before;
    }

    public boolean standsFor(int factor) throws IllegalArgumentException {
        needRange(factor, 1, MOST_FACTOR);
        return values.isNeverLess(graph.places, graph.weights, factor, choice.weights)
                && values.isNeverLess(graph.places, choice.weights, factor, graph.weights);
    }

    public int getCut(int places) throws IllegalArgumentException {
        needRange(places, 1, graph.allPlaces() - 1);
        return cuts.worthOf(places);
    }

    public int getShare(boolean isAbove) throws NoSuchElementException {
        findBestCut();
        return cuts.part(isAbove);
    }

    public int getBest() throws NoSuchElementException {
        findBestCut();
        return cuts.best;
    }

    public int countAbove(int number) throws IllegalArgumentException {
        needRange(number, LEAST_NUMBER, MOST_NUMBER);
        values.expand(graph.places, graph.weights);
        return values.countRootsAbove(graph.places, number);
    }

    public long getCoefficient(int power) throws IllegalArgumentException {
        needRange(power, 0, graph.places);
        values.expand(graph.places, graph.weights);
        return values.coefficients[power];
    }

    public float getMeanDegree() {
        return (float) graph.sumDegrees() / (float) graph.places;
    }

    public double getOhms(int one, int other)
            throws IndexOutOfBoundsException, IllegalArgumentException,
            UnsupportedOperationException {
        needPair(one, other);
        needJoined();
        net.findResistance(one, other);
        return (double) net.part(true) / (double) net.part(false);
    }

    public long checksum() {
        long sum = 7;
        for (int pair = 0; pair < graph.pairs; pair++) {
            sum = 31 * sum + graph.weightOf(pair);
        }
        for (int place = 0; place < graph.places; place++) {
            sum = 31 * sum + chips.held[place];
        }
        sum = 31 * sum + walkers.first;
        sum = 31 * sum + walkers.second;
        sum = 31 * sum + walkers.particle;
        return 31 * sum + dice.z;
    }

    public boolean isSound() {
        return (!graph.isWhole() || net.areLawsKept())
                && trees.areWorthsKept()
                && trees.isDrawnTree();
    }

    // ---- what the calls share.

    private void needPlace(int place) {
        if (place < 0 || place >= graph.places) {
            throw new IndexOutOfBoundsException("no such place");
        }
    }

    private void needPair(int one, int other) {
        needPlace(one);
        needPlace(other);
        if (one == other) {
            throw new IllegalArgumentException("both places are the same");
        }
    }

    private void needRange(int number, int least, int most) {
        if (number < least || number > most) {
            throw new IllegalArgumentException("a number is out of range");
        }
    }

    private void needJoined() {
        if (!graph.isWhole()) {
            throw new UnsupportedOperationException("the graph is not joined");
        }
    }

    private void needNeighbour(int place) {
        if (graph.degrees[place] < 1) {
            throw new UnsupportedOperationException("a place has no neighbour");
        }
    }

    private void findBestCut() {
        if (!cuts.findBest()) {
            throw new NoSuchElementException("no cut has a share");
        }
    }

    /** Tells whether the weight became another one. */
    private boolean tell(int pair, int weight) {
        int before = graph.weightOf(pair);
        if (before == weight) {
            return false;
        }
        graph.keepPast(pair, before);
        change(pair, weight);
        return true;
    }

    private void change(int pair, int weight) {
        graph.put(pair, weight);
        walkers.resetRotor(graph.lows[pair]);
        walkers.resetRotor(graph.highs[pair]);
        trees.forget(pair);
    }

    private static boolean has(int bits, int number) {
        return (bits >> number & 1) == 1;
    }

    private static long commonDivisor(long one, long other) {
        long large = one;
        long small = other;
        for (int round = 0; round < LOOP_BOUND && small != 0; round++) {
            long rest = large % small;
            large = small;
            small = rest;
        }
        return large;
    }

    /** The places, the weights between them, and the changes that can be taken back. */
    private static final class Graph {
        private int places;
        private int pairs;
        private final int[][] weights = new int[MOST_PLACES][MOST_PLACES];
        private final int[] degrees = new int[MOST_PLACES];
        private final int[] lows = new int[MOST_PAIRS];
        private final int[] highs = new int[MOST_PAIRS];
        private final int[] pastPairs = new int[MOST_PAST];
        private final int[] pastWeights = new int[MOST_PAST];
        private int pastCount;
        private int pastEnd;

        Graph() {
            empty(FIRST_PLACES);
        }

        void empty(int newPlaces) {
            places = newPlaces;
            pairs = 0;
            pastCount = 0;
            pastEnd = 0;
            for (int one = 0; one < MOST_PLACES; one++) {
                degrees[one] = 0;
                for (int other = 0; other < MOST_PLACES; other++) {
                    weights[one][other] = 0;
                }
            }
            for (int low = 0; low < places; low++) {
                for (int high = low + 1; high < places && pairs < MOST_PAIRS; high++) {
                    lows[pairs] = low;
                    highs[pairs] = high;
                    pairs++;
                }
            }
        }

        int allPlaces() {
            return (1 << places) - 1;
        }

        int pairOf(int one, int other) {
            int low = Math.min(one, other);
            int high = Math.max(one, other);
            return low * (2 * places - low - 1) / 2 + high - low - 1;
        }

        int weightOf(int pair) {
            return weights[lows[pair]][highs[pair]];
        }

        boolean isRingPair(int pair) {
            return highs[pair] - lows[pair] == 1 || highs[pair] - lows[pair] == places - 1;
        }

        void put(int pair, int weight) {
            int low = lows[pair];
            int high = highs[pair];
            int more = weight - weights[low][high];
            degrees[low] += more;
            degrees[high] += more;
            weights[low][high] = weight;
            weights[high][low] = weight;
        }

        /** The oldest change gives way if there are too many. */
        void keepPast(int pair, int weight) {
            pastPairs[pastEnd] = pair;
            pastWeights[pastEnd] = weight;
            pastEnd = pastEnd == MOST_PAST - 1 ? 0 : pastEnd + 1;
            pastCount = Math.min(pastCount + 1, MOST_PAST);
        }

        /** Returns the slot in which the dropped change still stands. */
        int dropPast() {
            pastCount--;
            pastEnd = pastEnd == 0 ? MOST_PAST - 1 : pastEnd - 1;
            return pastEnd;
        }

        int sumDegrees() {
            int sum = 0;
            for (int place = 0; place < places; place++) {
                sum += degrees[place];
            }
            return sum;
        }

        boolean isWhole() {
            int met = 1;
            // Each round but the last one meets a place more.
            for (int round = 1; round < places; round++) {
                for (int place = 0; place < places; place++) {
                    if (has(met, place)) {
                        met |= neighbours(place);
                    }
                }
            }
            return met == allPlaces();
        }

        private int neighbours(int place) {
            int bits = 0;
            for (int other = 0; other < places; other++) {
                if (weights[place][other] > 0) {
                    bits |= 1 << other;
                }
            }
            return bits;
        }

        /** Goes round by numbers; a place without a neighbour is its own. */
        int neighbourBehind(int place, int last) {
            for (int step = 1; step <= places; step++) {
                int other = last + step >= places ? last + step - places : last + step;
                if (weights[place][other] > 0) {
                    return other;
                }
            }
            return place;
        }
    }

    /**
     * Exact fractions by an elimination in which each entry stays a determinant of weights, so
     * that all of them are whole and fit a long.
     */
    private static final class Net {
        private static final int SIZE = MOST_PLACES - 1;

        private final Graph graph;
        private final long[][] rows = new long[SIZE][2 * SIZE];
        private int ground;
        private int size;
        private long above;
        private long below;

        Net(Graph graph) {
            this.graph = graph;
            below = 1;
        }

        long part(boolean isAbove) {
            return isAbove ? above : below;
        }

        void findTime(int from, int to) {
            long worth = setGround(to);
            setFraction(sumTimes(from), worth);
        }

        void findReturn(int place) {
            setFraction(graph.sumDegrees(), graph.degrees[place]);
        }

        void findChance(int from, int one, int other) {
            setGround(other);
            setFraction(flow(from, one), flow(one, one));
        }

        void findEscape(int from, int to) {
            long worth = setGround(to);
            setFraction(worth, flow(from, from) * graph.degrees[from]);
        }

        void findResistance(int one, int other) {
            long worth = setGround(other);
            setFraction(flow(one, one), worth);
        }

        private void setFraction(long newAbove, long newBelow) {
            long divisor = commonDivisor(newAbove, newBelow);
            above = divisor < 1 ? 0 : newAbove / divisor;
            below = divisor < 1 ? 1 : newBelow / divisor;
        }

        /** With isPlain each edge counts as one, whatever its weight. */
        long sumForests(int roots, boolean isPlain) {
            fillRows(roots, isPlain);
            return eliminate(size);
        }

        /**
         * Returns the worth of all trees; behind it, flow tells the potentials, times that worth,
         * of one place by a current that goes in at the other one and out at the ground.
         */
        private long setGround(int place) {
            ground = place;
            fillRows(1 << place, false);
            for (int row = 0; row < size; row++) {
                for (int column = 0; column < size; column++) {
                    rows[row][size + column] = row == column ? 1 : 0;
                }
            }
            return eliminate(2 * size);
        }

        private long flow(int one, int other) {
            if (one == ground || other == ground) {
                return 0;
            }
            return rows[rowOf(one)][size + rowOf(other)];
        }

        private int rowOf(int place) {
            return place < ground ? place : place - 1;
        }

        private long sumTimes(int from) {
            long sum = 0;
            for (int place = 0; place < graph.places; place++) {
                sum += flow(from, place) * graph.degrees[place];
            }
            return sum;
        }

        private void fillRows(int roots, boolean isPlain) {
            size = 0;
            for (int place = 0; place < graph.places && size < SIZE; place++) {
                if (!has(roots, place)) {
                    fillRow(place, roots, isPlain);
                    size++;
                }
            }
        }

        private void fillRow(int place, int roots, boolean isPlain) {
            int column = 0;
            long degree = 0;
            for (int other = 0; other < graph.places; other++) {
                int weight = graph.weights[place][other];
                weight = isPlain ? Math.min(weight, 1) : weight;
                degree += weight;
                if (!has(roots, other) && column < SIZE) {
                    rows[size][column] = -weight;
                    column++;
                }
            }
            rows[size][size] = degree;
        }

        /**
         * No rows need be swapped: no value of such a matrix is below 0, so that a leading part
         * without an inverse leaves the whole without one.
         */
        private long eliminate(int width) {
            long before = 1;
            for (int pivot = 0; pivot < size; pivot++) {
                long lead = rows[pivot][pivot];
                if (lead < 1) {
                    return 0;
                }
                for (int row = 0; row < size; row++) {
                    if (row != pivot) {
                        clearColumn(row, pivot, width, before);
                    }
                }
                before = lead;
            }
            return before;
        }

        private void clearColumn(int row, int pivot, int width, long divisor) {
            if (divisor < 1) {
                return;
            }
            long lead = rows[pivot][pivot];
            long first = rows[row][pivot];
            for (int column = 0; column < width; column++) {
                rows[row][column] =
                        (lead * rows[row][column] - first * rows[pivot][column]) / divisor;
            }
        }

        /** Leaves the line of the fractions out, as all of them have the same number below. */
        boolean areLawsKept() {
            long worth = setGround(0);
            long sum = 0;
            for (int pair = 0; pair < graph.pairs; pair++) {
                int low = graph.lows[pair];
                int high = graph.highs[pair];
                long resistance = flow(low, low) + flow(high, high) - 2 * flow(low, high);
                sum += graph.weightOf(pair) * resistance;
            }
            long resistance = flow(1, 1);
            long back = sumTimes(1);
            setGround(1);
            long there = sumTimes(0);
            return sum == worth * (graph.places - 1)
                    && there + back == graph.sumDegrees() * resistance;
        }
    }

    /** The draws of steps. */
    private static final class Dice {
        private final Graph graph;
        private int z;

        Dice(Graph graph) {
            this.graph = graph;
            z = 1;
        }

        int stepFrom(int place) {
            z = (int) ((long) z * MULTIPLIER % MODULUS);
            int degree = graph.degrees[place];
            if (degree < 1) {
                return place;
            }
            int left = z % degree;
            for (int other = 0; other < graph.places; other++) {
                left -= graph.weights[place][other];
                if (left < 0) {
                    return other;
                }
            }
            return place;
        }
    }

    /** The list of trees and the drawn tree; each tree is its edges as bits. */
    private static final class Trees {
        /** No tree is without edges, as there are two places at least. */
        private static final int NONE = 0;

        private final Graph graph;
        private final Net net;
        private final Dice dice;
        private final int[] parts = new int[MOST_PLACES];
        private final int[] lastSteps = new int[MOST_PLACES];
        private boolean isListing;
        private int ahead;
        private int drawn;

        Trees(Graph graph, Net net, Dice dice) {
            this.graph = graph;
            this.net = net;
            this.dice = dice;
        }

        void empty() {
            isListing = false;
            ahead = NONE;
            drawn = NONE;
        }

        void forget(int pair) {
            isListing = false;
            if (has(drawn, pair)) {
                drawn = NONE;
            }
        }

        void beginList() {
            isListing = true;
            ahead = leastTree(0, graph.pairs);
        }

        int takeListed() {
            int tree = ahead;
            ahead = treeBehind(tree);
            return tree;
        }

        /** Changes as few of the high bits as it can. */
        private int treeBehind(int tree) {
            for (int pair = 1; pair < graph.pairs; pair++) {
                boolean isBelow = (tree & (1 << pair) - 1) != 0;
                if (isBelow && !has(tree, pair) && graph.weightOf(pair) > 0) {
                    int next = leastTree(tree >> pair << pair | 1 << pair, pair);
                    if (next != NONE) {
                        return next;
                    }
                }
            }
            return NONE;
        }

        /**
         * Returns the least tree with the fixed edges and else only pairs below the bound: taking
         * each low edge that closes no ring leaves the fewest high ones.
         */
        private int leastTree(int fixed, int bound) {
            if (!joinParts(fixed)) {
                return NONE;
            }
            int tree = fixed;
            for (int pair = 0; pair < bound; pair++) {
                if (graph.weightOf(pair) > 0 && joinEnds(pair)) {
                    tree |= 1 << pair;
                }
            }
            return parts[0] == graph.allPlaces() ? tree : NONE;
        }

        /** Returns whether the edges close no ring. */
        private boolean joinParts(int edges) {
            for (int place = 0; place < graph.places; place++) {
                parts[place] = 1 << place;
            }
            for (int pair = 0; pair < graph.pairs; pair++) {
                if (has(edges, pair) && !joinEnds(pair)) {
                    return false;
                }
            }
            return true;
        }

        private boolean joinEnds(int pair) {
            int low = graph.lows[pair];
            int high = graph.highs[pair];
            if (has(parts[low], high)) {
                return false;
            }
            int joined = parts[low] | parts[high];
            for (int place = 0; place < graph.places; place++) {
                if (has(joined, place)) {
                    parts[place] = joined;
                }
            }
            return true;
        }

        int drawFrom(int root) {
            int met = 1 << root;
            int tree = 0;
            int steps = 0;
            for (int start = 0; start < graph.places; start++) {
                steps += stepUntilMet(start, met);
                int place = start;
                for (int edge = 0; edge < graph.places && !has(met, place); edge++) {
                    met |= 1 << place;
                    tree |= 1 << graph.pairOf(place, lastSteps[place]);
                    place = lastSteps[place];
                }
            }
            drawn = tree;
            return steps;
        }

        private int stepUntilMet(int start, int met) {
            int place = start;
            int steps = 0;
            while (!has(met, place) && steps < LOOP_BOUND) {
                lastSteps[place] = dice.stepFrom(place);
                place = lastSteps[place];
                steps++;
            }
            return steps;
        }

        boolean isDrawnTree() {
            return drawn == NONE || joinParts(drawn) && parts[0] == graph.allPlaces();
        }

        boolean areWorthsKept() {
            if (net.sumForests(1, true) > MOST_SUMMED_TREES) {
                return true;
            }
            long sum = 0;
            int tree = leastTree(0, graph.pairs);
            for (int count = 0; count < MOST_SUMMED_TREES && tree != NONE; count++) {
                sum += worthOf(tree);
                tree = treeBehind(tree);
            }
            return sum == net.sumForests(1, false);
        }

        private long worthOf(int tree) {
            long worth = 1;
            for (int pair = 0; pair < graph.pairs; pair++) {
                if (has(tree, pair)) {
                    worth *= graph.weightOf(pair);
                }
            }
            return worth;
        }
    }

    /** Both walkers, and the particle with its rotors. */
    private static final class Walkers {
        private final Graph graph;
        private final Dice dice;
        private final int[] rotors = new int[MOST_PLACES];
        private int first;
        private int second;
        private int particle;
        private final long[] walks = new long[MOST_PLACES];
        private final long[] longerWalks = new long[MOST_PLACES];

        Walkers(Graph graph, Dice dice) {
            this.graph = graph;
            this.dice = dice;
            empty();
        }

        void empty() {
            first = 0;
            second = 0;
            particle = 0;
            for (int place = 0; place < graph.places; place++) {
                resetRotor(place);
            }
        }

        void put(boolean isFirst, int place) {
            if (isFirst) {
                first = place;
            } else {
                second = place;
            }
        }

        int walkUntilMet(int most) {
            int steps = 0;
            while (first != second && steps < most) {
                first = dice.stepFrom(first);
                second = dice.stepFrom(second);
                steps++;
            }
            return steps;
        }

        void resetRotor(int place) {
            rotors[place] = graph.neighbourBehind(place, -1);
        }

        int moveParticle(int steps) {
            for (int step = 0; step < steps; step++) {
                rotors[particle] = graph.neighbourBehind(particle, rotors[particle]);
                particle = rotors[particle];
            }
            return particle;
        }

        long sumWalks(int from, int to, int steps) {
            for (int place = 0; place < graph.places; place++) {
                walks[place] = place == to ? 1 : 0;
            }
            for (int step = 0; step < steps; step++) {
                lengthenWalks();
            }
            return walks[from];
        }

        private void lengthenWalks() {
            for (int place = 0; place < graph.places; place++) {
                long sum = 0;
                for (int other = 0; other < graph.places; other++) {
                    sum += graph.weights[place][other] * walks[other];
                }
                longerWalks[place] = sum;
            }
            System.arraycopy(longerWalks, 0, walks, 0, graph.places);
        }
    }

    /** The chips of the places; the sink neither fires nor takes any. */
    private static final class Chips {
        private static final int NO_PLACE = -1;
        private static final int TOO_MANY = -1;

        private final Graph graph;
        private final int[] held = new int[MOST_PLACES];
        private final int[] thought = new int[MOST_PLACES];
        private int sink;

        Chips(Graph graph) {
            this.graph = graph;
        }

        void empty() {
            sink = 0;
            for (int place = 0; place < MOST_PLACES; place++) {
                held[place] = 0;
            }
        }

        boolean isStable() {
            return lowestReady(held) == NO_PLACE;
        }

        /** Returns whether it fired. */
        boolean fireHeld(int place) {
            if (!isReady(held, place) || isTooMuch(held, place)) {
                return false;
            }
            give(held, place);
            return true;
        }

        /** Returns how many times places fired, or TOO_MANY, with nothing changed. */
        int settleHeld() {
            System.arraycopy(held, 0, thought, 0, MOST_PLACES);
            int fired = settleThought();
            if (fired != TOO_MANY) {
                System.arraycopy(thought, 0, held, 0, MOST_PLACES);
            }
            return fired;
        }

        boolean isRecurrent() {
            for (int place = 0; place < graph.places; place++) {
                thought[place] = held[place];
                if (place != sink) {
                    thought[place] += graph.weights[place][sink];
                }
            }
            if (settleThought() == TOO_MANY) {
                return false;
            }
            for (int place = 0; place < graph.places; place++) {
                if (thought[place] != held[place]) {
                    return false;
                }
            }
            return true;
        }

        long countStable() {
            long states = 1;
            for (int place = 0; place < graph.places; place++) {
                if (place != sink) {
                    states *= graph.degrees[place];
                }
            }
            return states;
        }

        private int settleThought() {
            int fired = 0;
            int place = lowestReady(thought);
            while (place != NO_PLACE && fired < LOOP_BOUND) {
                if (isTooMuch(thought, place)) {
                    return TOO_MANY;
                }
                give(thought, place);
                fired++;
                place = lowestReady(thought);
            }
            return fired;
        }

        private int lowestReady(int[] counts) {
            for (int place = 0; place < graph.places; place++) {
                if (isReady(counts, place)) {
                    return place;
                }
            }
            return NO_PLACE;
        }

        private boolean isReady(int[] counts, int place) {
            int degree = graph.degrees[place];
            return place != sink && degree > 0 && counts[place] >= degree;
        }

        private boolean isTooMuch(int[] counts, int place) {
            for (int other = 0; other < graph.places; other++) {
                int more = graph.weights[place][other];
                if (other != sink && more > 0 && counts[other] + more > MOST_CHIPS) {
                    return true;
                }
            }
            return false;
        }

        private void give(int[] counts, int place) {
            counts[place] -= graph.degrees[place];
            for (int other = 0; other < graph.places; other++) {
                if (other != sink) {
                    counts[other] += graph.weights[place][other];
                }
            }
        }
    }

    /** The chosen pairs; a weight of 0 is that of a pair which is not chosen. */
    private static final class Choice {
        private final int[][] weights = new int[MOST_PLACES][MOST_PLACES];

        void empty() {
            for (int one = 0; one < MOST_PLACES; one++) {
                for (int other = 0; other < MOST_PLACES; other++) {
                    weights[one][other] = 0;
                }
            }
        }

        void put(int one, int other, int weight) {
            weights[one][other] = weight;
            weights[other][one] = weight;
        }
    }

    /** The worths of cuts, and the best cut. */
    private static final class Cuts {
        private final Graph graph;
        private int best;
        private int above;
        private int below;

        Cuts(Graph graph) {
            this.graph = graph;
            below = 1;
        }

        int worthOf(int places) {
            int worth = 0;
            for (int pair = 0; pair < graph.pairs; pair++) {
                if (has(places, graph.lows[pair]) != has(places, graph.highs[pair])) {
                    worth += graph.weightOf(pair);
                }
            }
            return worth;
        }

        /** Returns whether there is one. */
        boolean findBest() {
            int all = graph.sumDegrees();
            best = 0;
            above = 0;
            below = 1;
            // Either side of a cut has its share, and the one with less bits lacks the last place.
            for (int places = 1; places <= graph.allPlaces() / 2; places++) {
                int inside = sumInside(places);
                int less = Math.min(inside, all - inside);
                if (less > 0) {
                    offer(places, worthOf(places), less);
                }
            }
            return best != 0;
        }

        private void offer(int places, int worth, int degrees) {
            if (best == 0 || worth * below < above * degrees) {
                best = places;
                above = worth;
                below = degrees;
            }
        }

        private int sumInside(int places) {
            int sum = 0;
            for (int place = 0; place < graph.places; place++) {
                if (has(places, place)) {
                    sum += graph.degrees[place];
                }
            }
            return sum;
        }

        int part(boolean isAbove) {
            int divisor = (int) commonDivisor(above, below);
            if (divisor < 1) {
                return isAbove ? 0 : 1;
            }
            return (isAbove ? above : below) / divisor;
        }
    }

    /**
     * The polynomial of a matrix, and what its signs tell of the values. Such a matrix has only
     * real values, so that the changes of sign count them exactly.
     */
    private static final class Values {
        private final long[][] matrix = new long[MOST_PLACES][MOST_PLACES];
        private final long[][] factor = new long[MOST_PLACES][MOST_PLACES];
        private final long[][] product = new long[MOST_PLACES][MOST_PLACES];
        private final long[] coefficients = new long[MOST_PLACES + 1];
        private final long[] shifted = new long[MOST_PLACES + 1];

        void expand(int size, int[][] weights) {
            setZero(size);
            addNet(size, weights, 1);
            expandMatrix(size);
        }

        /** Tells whether the one sum, times so many, is for no values less than the other sum. */
        boolean isNeverLess(int size, int[][] weights, int times, int[][] otherWeights) {
            setZero(size);
            addNet(size, weights, times);
            addNet(size, otherWeights, -1);
            expandMatrix(size);
            long sign = 1;
            for (int power = size; power >= 0; power--) {
                if (sign * coefficients[power] < 0) {
                    return false;
                }
                sign = -sign;
            }
            return true;
        }

        int countRootsAbove(int size, int number) {
            System.arraycopy(coefficients, 0, shifted, 0, size + 1);
            for (int round = 0; round < size; round++) {
                for (int power = size - 1; power >= round; power--) {
                    shifted[power] += number * shifted[power + 1];
                }
            }
            int changes = 0;
            boolean isLastAbove = true;
            for (int power = size; power >= 0; power--) {
                if (shifted[power] != 0 && shifted[power] > 0 != isLastAbove) {
                    changes++;
                    isLastAbove = !isLastAbove;
                }
            }
            return changes;
        }

        private void setZero(int size) {
            for (int row = 0; row < size; row++) {
                for (int column = 0; column < size; column++) {
                    matrix[row][column] = 0;
                }
            }
        }

        private void addNet(int size, int[][] weights, int times) {
            for (int row = 0; row < size; row++) {
                for (int column = 0; column < size; column++) {
                    int weight = times * weights[row][column];
                    matrix[row][column] -= weight;
                    matrix[row][row] += weight;
                }
            }
        }

        /** By traces: each of the divisions leaves nothing over. */
        private void expandMatrix(int size) {
            for (int row = 0; row < size; row++) {
                for (int column = 0; column < size; column++) {
                    factor[row][column] = row == column ? 1 : 0;
                }
            }
            coefficients[size] = 1;
            for (int round = 1; round <= size; round++) {
                multiply(size);
                long coefficient = -trace(size) / round;
                coefficients[size - round] = coefficient;
                for (int row = 0; row < size; row++) {
                    System.arraycopy(product[row], 0, factor[row], 0, size);
                    factor[row][row] += coefficient;
                }
            }
        }

        private void multiply(int size) {
            for (int row = 0; row < size; row++) {
                for (int column = 0; column < size; column++) {
                    long sum = 0;
                    for (int middle = 0; middle < size; middle++) {
                        sum += matrix[row][middle] * factor[middle][column];
                    }
                    product[row][column] = sum;
                }
            }
        }

        private long trace(int size) {
            long sum = 0;
            for (int row = 0; row < size; row++) {
                sum += product[row][row];
            }
            return sum;
        }
    }
}
