import java.math.BigInteger;

/** A fraction in lowest terms, with a number above 0 below the line. */
final class Ratio implements Comparable<Ratio> {
    static final Ratio ZERO = of(0);
    static final Ratio ONE = of(1);

    final BigInteger above;
    final BigInteger below;

    private Ratio(BigInteger above, BigInteger below) {
        BigInteger divisor = above.gcd(below);
        divisor = below.signum() < 0 ? divisor.negate() : divisor;
        this.above = above.divide(divisor);
        this.below = below.divide(divisor);
    }

    static Ratio of(long number) {
        return new Ratio(BigInteger.valueOf(number), BigInteger.ONE);
    }

    static Ratio of(long above, long below) {
        return new Ratio(BigInteger.valueOf(above), BigInteger.valueOf(below));
    }

    Ratio plus(Ratio other) {
        return new Ratio(above.multiply(other.below).add(other.above.multiply(below)),
                below.multiply(other.below));
    }

    Ratio minus(Ratio other) {
        return plus(other.times(of(-1)));
    }

    Ratio times(Ratio other) {
        return new Ratio(above.multiply(other.above), below.multiply(other.below));
    }

    Ratio over(Ratio other) {
        return new Ratio(above.multiply(other.below), below.multiply(other.above));
    }

    int sign() {
        return above.signum();
    }

    long part(boolean isAbove) {
        return (isAbove ? above : below).longValueExact();
    }

    @Override
    public int compareTo(Ratio other) {
        return minus(other).sign();
    }

    /** Solves rows of size + 1 numbers, the last one being the right side. */
    static Ratio[] solve(Ratio[][] rows) {
        int size = rows.length;
        for (int pivot = 0; pivot < size; pivot++) {
            int found = pivot;
            while (rows[found][pivot].sign() == 0) {
                found++;
            }
            Ratio[] lead = rows[found];
            rows[found] = rows[pivot];
            rows[pivot] = lead;
            for (int row = 0; row < size; row++) {
                if (row != pivot) {
                    Ratio times = rows[row][pivot].over(lead[pivot]);
                    for (int column = 0; column <= size; column++) {
                        rows[row][column] = rows[row][column].minus(times.times(lead[column]));
                    }
                }
            }
        }
        Ratio[] answer = new Ratio[size];
        for (int row = 0; row < size; row++) {
            answer[row] = rows[row][size].over(rows[row][row]);
        }
        return answer;
    }

    static Ratio determinant(Ratio[][] matrix) {
        int size = matrix.length;
        Ratio product = ONE;
        for (int pivot = 0; pivot < size; pivot++) {
            int found = pivot;
            while (found < size && matrix[found][pivot].sign() == 0) {
                found++;
            }
            if (found == size) {
                return ZERO;
            }
            Ratio[] lead = matrix[found];
            matrix[found] = matrix[pivot];
            matrix[pivot] = lead;
            product = product.times(found == pivot ? lead[pivot] : lead[pivot].times(of(-1)));
            for (int row = pivot + 1; row < size; row++) {
                Ratio times = matrix[row][pivot].over(lead[pivot]);
                for (int column = 0; column < size; column++) {
                    matrix[row][column] = matrix[row][column].minus(times.times(lead[column]));
                }
            }
        }
        return product;
    }

    /** Returns how many values of a matrix that is its own mirror are above, and below, 0. */
    static int[] inertia(Ratio[][] matrix) {
        int size = matrix.length;
        boolean[] used = new boolean[size];
        int[] signs = new int[2];
        for (int round = 0; round < size; round++) {
            int pivot = pivotOf(matrix, used);
            if (pivot < 0) {
                break;
            }
            used[pivot] = true;
            Ratio lead = matrix[pivot][pivot];
            signs[lead.sign() > 0 ? 0 : 1]++;
            for (int row = 0; row < size; row++) {
                if (!used[row]) {
                    Ratio times = matrix[row][pivot].over(lead);
                    for (int column = 0; column < size; column++) {
                        matrix[row][column] =
                                matrix[row][column].minus(times.times(matrix[pivot][column]));
                    }
                }
            }
        }
        return signs;
    }

    /** Makes one by adding a row and a column to others where the diagonal has none. */
    private static int pivotOf(Ratio[][] matrix, boolean[] used) {
        int size = matrix.length;
        for (int place = 0; place < size; place++) {
            if (!used[place] && matrix[place][place].sign() != 0) {
                return place;
            }
        }
        for (int one = 0; one < size; one++) {
            for (int other = 0; other < size; other++) {
                if (!used[one] && !used[other] && matrix[one][other].sign() != 0) {
                    for (int column = 0; column < size; column++) {
                        matrix[one][column] = matrix[one][column].plus(matrix[other][column]);
                    }
                    for (int row = 0; row < size; row++) {
                        matrix[row][one] = matrix[row][one].plus(matrix[row][other]);
                    }
                    return one;
                }
            }
        }
        return -1;
    }
}
