import java.math.BigInteger;
import java.util.ArrayDeque;
import java.util.ArrayList;
import java.util.Arrays;
import java.util.Collections;
import java.util.Deque;
import java.util.List;
import java.util.NoSuchElementException;

/**
 * What the document says, done in the slowest and plainest way: equations of steps, all sets of
 * edges, all states of chips.
 */
public final class PlainModel {
    private int n = 4;
    private int[][] w = new int[4][4];
    private Deque<int[]> past = new ArrayDeque<>();
    private int z = 1;
    private int first;
    private int second;
    private int particle;
    private int[] rotor = {-1, -1, -1, -1};
    private int[] chip = new int[4];
    private int sink;
    private int[][] chosen = new int[4][4];
    private List<Integer> listed;
    private Integer drawn;

    public int clear(int places) {
        range(places, 2, 7);
        int before = n;
        n = places;
        w = new int[n][n];
        chosen = new int[n][n];
        chip = new int[n];
        rotor = new int[n];
        Arrays.fill(rotor, -1);
        past.clear();
        first = second = particle = sink = 0;
        listed = null;
        drawn = null;
        return before;
    }

    public int setWeight(int one, int other, int weight) {
        pair(one, other);
        range(weight, 0, 4);
        int before = w[one][other];
        tell(one, other, weight);
        return before;
    }

    private boolean tell(int one, int other, int weight) {
        if (w[one][other] == weight) {
            return false;
        }
        past.addLast(new int[] {one, other, w[one][other]});
        if (past.size() > 30) {
            past.removeFirst();
        }
        change(one, other, weight);
        return true;
    }

    private void change(int one, int other, int weight) {
        w[one][other] = weight;
        w[other][one] = weight;
        rotor[one] = neighbours(one).isEmpty() ? -1 : neighbours(one).get(0);
        rotor[other] = neighbours(other).isEmpty() ? -1 : neighbours(other).get(0);
        listed = null;
        if (drawn != null && (drawn >> number(one, other) & 1) == 1) {
            drawn = null;
        }
    }

    public int getWeight(int one, int other) {
        pair(one, other);
        return w[one][other];
    }

    public int undo() {
        if (past.isEmpty()) {
            throw new NoSuchElementException();
        }
        int[] last = past.removeLast();
        change(last[0], last[1], last[2]);
        return past.size();
    }

    public int getDegree(int place) {
        place(place);
        return degree(place);
    }

    public boolean isJoined() {
        return partsOf(edges()) == 1;
    }

    public int getPair(int one, int other) {
        pair(one, other);
        return number(one, other);
    }

    public int makeRing(int weight) {
        range(weight, 1, 4);
        int changed = 0;
        for (int one = 0; one < n; one++) {
            for (int other = one + 1; other < n; other++) {
                boolean isNext = (one + 1) % n == other || (other + 1) % n == one;
                if (tell(one, other, isNext ? weight : 0)) {
                    changed++;
                }
            }
        }
        return changed;
    }

    public long getTime(int from, int to, boolean isAbove) {
        place(from);
        place(to);
        joined();
        return time(from, to).part(isAbove);
    }

    private Ratio time(int from, int to) {
        Ratio[][] rows = new Ratio[n][n + 1];
        for (int row = 0; row < n; row++) {
            for (int column = 0; column < n; column++) {
                rows[row][column] = Ratio.of(row == column ? 1 : 0);
                if (row != to) {
                    rows[row][column] = rows[row][column].minus(Ratio.of(w[row][column], degree(row)));
                }
            }
            rows[row][n] = Ratio.of(row == to ? 0 : 1);
        }
        return Ratio.solve(rows)[from];
    }

    public long getReturn(int place, boolean isAbove) {
        place(place);
        joined();
        Ratio sum = Ratio.ONE;
        for (int next : neighbours(place)) {
            sum = sum.plus(time(next, place).times(Ratio.of(w[place][next], degree(place))));
        }
        return sum.part(isAbove);
    }

    public long getChance(int from, int one, int other, boolean isAbove) {
        place(from);
        pair(one, other);
        joined();
        return chance(from, one, other).part(isAbove);
    }

    private Ratio chance(int from, int one, int other) {
        Ratio[][] rows = new Ratio[n][n + 1];
        for (int row = 0; row < n; row++) {
            for (int column = 0; column < n; column++) {
                rows[row][column] = Ratio.of(row == column ? 1 : 0);
                if (row != one && row != other) {
                    rows[row][column] = rows[row][column].minus(Ratio.of(w[row][column], degree(row)));
                }
            }
            rows[row][n] = Ratio.of(row == one ? 1 : 0);
        }
        return Ratio.solve(rows)[from];
    }

    public long getEscape(int from, int to, boolean isAbove) {
        pair(from, to);
        joined();
        Ratio sum = Ratio.ZERO;
        for (int next : neighbours(from)) {
            sum = sum.plus(chance(next, to, from).times(Ratio.of(w[from][next], degree(from))));
        }
        return sum.part(isAbove);
    }

    public long countWalks(int from, int to, int steps) {
        place(from);
        place(to);
        range(steps, 0, 40);
        BigInteger[] at = new BigInteger[n];
        Arrays.fill(at, BigInteger.ZERO);
        at[from] = BigInteger.ONE;
        for (int step = 0; step < steps; step++) {
            BigInteger[] next = new BigInteger[n];
            for (int place = 0; place < n; place++) {
                next[place] = BigInteger.ZERO;
                for (int last = 0; last < n; last++) {
                    next[place] = next[place].add(at[last].multiply(BigInteger.valueOf(w[last][place])));
                }
            }
            at = next;
        }
        return at[to].longValue();
    }

    public long getResistance(int one, int other, boolean isAbove) {
        pair(one, other);
        joined();
        return resistance(one, other).part(isAbove);
    }

    /** The power with 1 and 0 at both, summed up over the edges, is 1 by the resistance. */
    private Ratio resistance(int one, int other) {
        Ratio power = Ratio.ZERO;
        for (int low = 0; low < n; low++) {
            for (int high = low + 1; high < n; high++) {
                if (w[low][high] > 0) {
                    Ratio fall = chance(low, one, other).minus(chance(high, one, other));
                    power = power.plus(fall.times(fall).times(Ratio.of(w[low][high])));
                }
            }
        }
        return Ratio.ONE.over(power);
    }

    public double getOhms(int one, int other) {
        pair(one, other);
        joined();
        Ratio resistance = resistance(one, other);
        return (double) resistance.part(true) / (double) resistance.part(false);
    }

    public long countTrees() {
        return worths(n - 1, -1, 1);
    }

    public long countTreesWith(int one, int other) {
        pair(one, other);
        return worths(n - 1, number(one, other), 1);
    }

    public long countForests(int roots) {
        range(roots, 1, (1 << n) - 1);
        return worths(n - Integer.bitCount(roots), -1, roots);
    }

    /** Sums the worths of sets of so many edges that join each place to one root. */
    private long worths(int size, int with, int roots) {
        long sum = 0;
        for (int set : sets(size)) {
            if ((with < 0 || (set >> with & 1) == 1) && areRootsApart(set, roots)) {
                sum += worth(set);
            }
        }
        return sum;
    }

    private boolean areRootsApart(int set, int roots) {
        int[] label = labels(set);
        int[] found = new int[n];
        for (int place = 0; place < n; place++) {
            found[label[place]] += roots >> place & 1;
        }
        for (int place = 0; place < n; place++) {
            if (found[label[place]] != 1) {
                return false;
            }
        }
        return partsOf(set) == n - Integer.bitCount(set);
    }

    private long worth(int set) {
        long worth = 1;
        for (int one = 0; one < n; one++) {
            for (int other = one + 1; other < n; other++) {
                if ((set >> number(one, other) & 1) == 1) {
                    worth *= w[one][other];
                }
            }
        }
        return worth;
    }

    /** All sets of so many edges, as rising bits. */
    private List<Integer> sets(int size) {
        List<Integer> all = new ArrayList<>();
        int edges = edges();
        int set = 0;
        do {
            if (Integer.bitCount(set) == size) {
                all.add(set);
            }
            set = set - edges & edges;
        } while (set != 0);
        return all;
    }

    private List<Integer> trees() {
        List<Integer> all = new ArrayList<>();
        for (int set : sets(n - 1)) {
            if (partsOf(set) == 1) {
                all.add(set);
            }
        }
        return all;
    }

    public int listTrees() {
        listed = trees();
        Collections.reverse(listed);
        return listed.size();
    }

    public int nextTree() {
        if (listed == null) {
            throw new IllegalStateException();
        }
        if (listed.isEmpty()) {
            throw new NoSuchElementException();
        }
        return listed.remove(listed.size() - 1);
    }

    public int drawTree(int root) {
        place(root);
        joined();
        boolean[] in = new boolean[n];
        in[root] = true;
        int steps = 0;
        int tree = 0;
        int[] last = new int[n];
        while (true) {
            int start = 0;
            while (start < n && in[start]) {
                start++;
            }
            if (start == n) {
                drawn = tree;
                return steps;
            }
            for (int at = start; !in[at]; at = last[at]) {
                last[at] = step(at);
                steps++;
            }
            for (int at = start; !in[at]; at = last[at]) {
                in[at] = true;
                tree |= 1 << number(at, last[at]);
            }
        }
    }

    private int step(int place) {
        z = (int) (z * 48271L % 2147483647L);
        List<Integer> faces = new ArrayList<>();
        for (int next : neighbours(place)) {
            faces.addAll(Collections.nCopies(w[place][next], next));
        }
        return faces.get(z % faces.size());
    }

    public int getDrawn() {
        if (drawn == null) {
            throw new NoSuchElementException();
        }
        return drawn;
    }

    public int seed(int z) {
        range(z, 1, 2147483646);
        int before = this.z;
        this.z = z;
        return before;
    }

    public int putWalker(boolean isFirst, int place) {
        place(place);
        int before = getWalker(isFirst);
        if (isFirst) {
            first = place;
        } else {
            second = place;
        }
        return before;
    }

    public int walk(int steps) {
        range(steps, 1, 200);
        if (degree(first) == 0 || degree(second) == 0) {
            throw new UnsupportedOperationException();
        }
        for (int made = 0; made < steps; made++) {
            if (first == second) {
                return made;
            }
            first = step(first);
            second = step(second);
        }
        return steps;
    }

    public int getWalker(boolean isFirst) {
        return isFirst ? first : second;
    }

    public int setChips(int place, int chips) {
        place(place);
        range(chips, 0, 99);
        int before = chip[place];
        chip[place] = chips;
        return before;
    }

    public int getChips(int place) {
        place(place);
        return chip[place];
    }

    public int setSink(int place) {
        place(place);
        int before = sink;
        sink = place;
        return before;
    }

    public int fire(int place) {
        place(place);
        if (!canFire(chip, place)) {
            throw new UnsupportedOperationException();
        }
        chip = fired(chip, place, 99);
        return chip[place];
    }

    public int settle() {
        joined();
        int[] now = chip;
        int count = 0;
        for (int place = lowest(now); place >= 0; place = lowest(now)) {
            now = fired(now, place, 99);
            count++;
        }
        chip = now;
        return count;
    }

    private boolean canFire(int[] state, int place) {
        return place != sink && degree(place) > 0 && state[place] >= degree(place);
    }

    private int lowest(int[] state) {
        for (int place = 0; place < n; place++) {
            if (canFire(state, place)) {
                return place;
            }
        }
        return -1;
    }

    private int[] fired(int[] state, int place, int most) {
        int[] next = state.clone();
        next[place] -= degree(place);
        for (int other : neighbours(place)) {
            if (other != sink) {
                next[other] += w[place][other];
                if (next[other] > most) {
                    throw new UnsupportedOperationException();
                }
            }
        }
        return next;
    }

    public char getState() {
        joined();
        return lowest(chip) >= 0 ? 'u' : isRecurrent(chip) ? 'r' : 's';
    }

    private boolean isRecurrent(int[] state) {
        int[] now = state.clone();
        for (int place = 0; place < n; place++) {
            now[place] += w[place][sink];
        }
        for (int place = lowest(now); place >= 0; place = lowest(now)) {
            now = fired(now, place, Integer.MAX_VALUE);
        }
        return Arrays.equals(now, state);
    }

    public int countRecurrent() {
        joined();
        long states = 1;
        for (int place = 0; place < n; place++) {
            states *= place == sink ? 1 : degree(place);
        }
        if (states > 3000) {
            throw new UnsupportedOperationException();
        }
        int count = 0;
        for (int state = 0; state < states; state++) {
            int[] chips = new int[n];
            int left = state;
            for (int place = 0; place < n; place++) {
                if (place != sink) {
                    chips[place] = left % degree(place);
                    left /= degree(place);
                }
            }
            count += isRecurrent(chips) ? 1 : 0;
        }
        return count;
    }

    public int turn(int steps) {
        range(steps, 1, 200);
        if (degree(particle) == 0) {
            throw new UnsupportedOperationException();
        }
        for (int step = 0; step < steps; step++) {
            List<Integer> round = neighbours(particle);
            rotor[particle] = round.get((round.indexOf(rotor[particle]) + 1) % round.size());
            particle = rotor[particle];
        }
        return particle;
    }

    public int getRotor(int place) {
        place(place);
        if (rotor[place] < 0) {
            throw new NoSuchElementException();
        }
        return rotor[place];
    }

    public int choose(int one, int other, int weight) {
        pair(one, other);
        range(weight, 0, 12);
        int before = chosen[one][other];
        chosen[one][other] = weight;
        chosen[other][one] = weight;
        return before;
    }

    public boolean standsFor(int factor) {
        range(factor, 1, 3);
        Ratio[][] more = new Ratio[n][n];
        Ratio[][] less = new Ratio[n][n];
        for (int row = 0; row < n; row++) {
            for (int column = 0; column < n; column++) {
                Ratio graph = entry(w, row, column);
                Ratio net = entry(chosen, row, column);
                more[row][column] = graph.times(Ratio.of(factor)).minus(net);
                less[row][column] = net.times(Ratio.of(factor)).minus(graph);
            }
        }
        return Ratio.inertia(more)[1] == 0 && Ratio.inertia(less)[1] == 0;
    }

    public int getCut(int places) {
        range(places, 1, (1 << n) - 2);
        int worth = 0;
        for (int one = 0; one < n; one++) {
            for (int other = 0; other < n; other++) {
                if ((places >> one & 1) == 1 && (places >> other & 1) == 0) {
                    worth += w[one][other];
                }
            }
        }
        return worth;
    }

    public int getShare(boolean isAbove) {
        return (int) share(getBest()).part(isAbove);
    }

    public int getBest() {
        int best = 0;
        for (int places = 1; places < (1 << n) - 1; places++) {
            Ratio share = share(places);
            if (share != null && (best == 0 || share.compareTo(share(best)) < 0)) {
                best = places;
            }
        }
        if (best == 0) {
            throw new NoSuchElementException();
        }
        return best;
    }

    private Ratio share(int places) {
        int inside = 0;
        int outside = 0;
        for (int place = 0; place < n; place++) {
            if ((places >> place & 1) == 1) {
                inside += degree(place);
            } else {
                outside += degree(place);
            }
        }
        return inside == 0 || outside == 0 ? null
                : Ratio.of(getCut(places), Math.min(inside, outside));
    }

    public int countAbove(int number) {
        range(number, -1, 60);
        Ratio[][] matrix = new Ratio[n][n];
        for (int row = 0; row < n; row++) {
            for (int column = 0; column < n; column++) {
                matrix[row][column] = entry(w, row, column).minus(Ratio.of(row == column ? number : 0));
            }
        }
        return Ratio.inertia(matrix)[0];
    }

    /** By the determinants of all parts of the matrix of one size. */
    public long getCoefficient(int power) {
        range(power, 0, n);
        int size = n - power;
        Ratio sum = Ratio.ZERO;
        for (int set = 0; set < 1 << n; set++) {
            if (Integer.bitCount(set) == size) {
                sum = sum.plus(Ratio.determinant(partOf(set, size)));
            }
        }
        return (size % 2 == 0 ? 1 : -1) * sum.part(true);
    }

    private Ratio[][] partOf(int set, int size) {
        Ratio[][] part = new Ratio[size][size];
        int row = 0;
        for (int one = 0; one < n; one++) {
            if ((set >> one & 1) == 1) {
                int column = 0;
                for (int other = 0; other < n; other++) {
                    if ((set >> other & 1) == 1) {
                        part[row][column++] = entry(w, one, other);
                    }
                }
                row++;
            }
        }
        return part;
    }

    public float getMeanDegree() {
        int sum = 0;
        for (int place = 0; place < n; place++) {
            sum += degree(place);
        }
        return (float) sum / (float) n;
    }

    public long checksum() {
        List<Integer> all = new ArrayList<>();
        for (int one = 0; one < n; one++) {
            for (int other = one + 1; other < n; other++) {
                all.add(w[one][other]);
            }
        }
        for (int count : chip) {
            all.add(count);
        }
        all.addAll(List.of(first, second, particle, z));
        long sum = 7;
        for (int number : all) {
            sum = 31 * sum + number;
        }
        return sum;
    }

    public boolean isSound() {
        return true;
    }

    private Ratio entry(int[][] weights, int row, int column) {
        return Ratio.of(row == column ? Arrays.stream(weights[row]).sum() : -weights[row][column]);
    }

    private int number(int one, int other) {
        int number = 0;
        for (int low = 0; low < n; low++) {
            for (int high = low + 1; high < n; high++) {
                if (low == Math.min(one, other) && high == Math.max(one, other)) {
                    return number;
                }
                number++;
            }
        }
        throw new AssertionError("no pair " + one + " " + other);
    }

    private int edges() {
        int bits = 0;
        int number = 0;
        for (int one = 0; one < n; one++) {
            for (int other = one + 1; other < n; other++) {
                bits |= w[one][other] > 0 ? 1 << number : 0;
                number++;
            }
        }
        return bits;
    }

    private int[] labels(int set) {
        int[] label = new int[n];
        Arrays.setAll(label, place -> place);
        int number = 0;
        for (int one = 0; one < n; one++) {
            for (int other = one + 1; other < n; other++) {
                if ((set >> number & 1) == 1) {
                    int gone = label[one];
                    int kept = label[other];
                    for (int place = 0; place < n; place++) {
                        label[place] = label[place] == gone ? kept : label[place];
                    }
                }
                number++;
            }
        }
        return label;
    }

    private int partsOf(int set) {
        return (int) Arrays.stream(labels(set)).distinct().count();
    }

    private int degree(int place) {
        return Arrays.stream(w[place]).sum();
    }

    private List<Integer> neighbours(int place) {
        List<Integer> all = new ArrayList<>();
        for (int other = 0; other < n; other++) {
            if (w[place][other] > 0) {
                all.add(other);
            }
        }
        return all;
    }

    private void place(int place) {
        if (place < 0 || place >= n) {
            throw new IndexOutOfBoundsException();
        }
    }

    private void pair(int one, int other) {
        place(one);
        place(other);
        if (one == other) {
            throw new IllegalArgumentException();
        }
    }

    private void range(int number, int least, int most) {
        if (number < least || number > most) {
            throw new IllegalArgumentException();
        }
    }

    private void joined() {
        if (!isJoined()) {
            throw new UnsupportedOperationException();
        }
    }
}
