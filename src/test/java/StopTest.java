import java.math.BigInteger;

/** Promises 16 and 17: stop, sells. */
public final class StopTest {
    private static final long REFUSED = -1000000000000000002L;

    public static void main(String[] args) {
        ordinary();
        soldByItself();
        againstPlans();
        refusals();
        Due.end();
    }

    private static void stop(int row, int n, int t, long upper, long lower, int taking) {
        TwiceStolen x = new TwiceStolen();
        String call = "(" + row + ", " + n + ", " + t + ")";
        Due.due("stop" + call + " upper", x.stop(row, n, t, 0), upper);
        Due.due("stop" + call + " lower", x.stop(row, n, t, 1), lower);
        Due.due("sells" + call, x.sells(row, n, t), taking);
    }

    private static void ordinary() {
        stop(5, 1, 3, 5, 1, 0);
        stop(0, 1, 10, 0, 1, 0);
        stop(12, 2, 0, 2, 1, 1);
        stop(12, 2, 5, 1, 1, 0);
        stop(12, 2, 4, 6, 5, 1);
        stop(11, 2, 0, 1, 1, 0);
        stop(21, 2, 0, 2, 1, 0);
        stop(9, 2, 10, 0, 1, 0);
        stop(1, 9, 9, 1, 100000000, 8);
        stop(999999999, 9, 0, 9, 1, 0);
        stop(9, 9, 5, 9, 256, 8);
        stop(100000000, 9, 5, 1, 1, 0);
        stop(104, 3, 5, 1, 1, 0);
        stop(124, 3, 5, 1, 1, 0);
    }

    private static void soldByItself() {
        TwiceStolen x = new TwiceStolen();
        Due.due("sells first", x.sells(129, 3, 4), 2);
        Due.due("sells another row", x.sells(921, 3, 4), 0);
        Due.due("stop of another", x.stop(12, 2, 0, 0), 2);
        Due.due("sells behind it", x.sells(119, 3, 0), 2);
    }

    // backwards: from taking to taking, going on only where that is better
    private static void againstPlans() {
        TwiceStolen x = new TwiceStolen();
        long drawn = 11;
        for (int run = 0; run < 4000; run++) {
            drawn = (75 * drawn + 74) % 65537;
            int n = 1 + (int) (drawn % 9);
            int t = (int) (drawn / 9 % 11);
            int row = 0;
            int[] digit = new int[n];
            for (int i = 0; i < n; i++) {
                drawn = (75 * drawn + 74) % 65537;
                digit[i] = (int) (run % 2 == 0 ? drawn % 10 : Math.min(9, i + drawn % 3));
                row = 10 * row + digit[i];
            }
            BigInteger ten = BigInteger.TEN;
            BigInteger upper = BigInteger.valueOf(digit[n - 1]);
            BigInteger lower = BigInteger.ONE;
            int taking = n - 1;
            for (int i = n - 2; i >= 0; i--) {
                BigInteger onUpper = upper.multiply(BigInteger.valueOf(10 - t));
                BigInteger onLower = lower.multiply(ten);
                BigInteger sold = BigInteger.valueOf(digit[i]);
                if (sold.multiply(onLower).compareTo(onUpper) >= 0) {
                    upper = sold;
                    lower = BigInteger.ONE;
                    taking = i;
                } else {
                    upper = onUpper;
                    lower = onLower;
                }
            }
            BigInteger common = upper.gcd(lower);
            String call = "(" + row + ", " + n + ", " + t + ")";
            Due.due("stop" + call + " upper", x.stop(row, n, t, 0), upper.divide(common).longValueExact());
            Due.due("stop" + call + " lower", x.stop(row, n, t, 1), lower.divide(common).longValueExact());
            Due.due("sells" + call, x.sells(row, n, t), taking);
        }
    }

    private static void refusals() {
        TwiceStolen x = new TwiceStolen();
        int[][] wrong = {{-1, 1, 0}, {10, 1, 0}, {100, 2, 0}, {1000000000, 9, 0}, {0, 0, 0}, {0, 10, 0},
            {0, -1, 0}, {0, 1, -1}, {0, 1, 11}, {Integer.MAX_VALUE, 9, 0}, {Integer.MIN_VALUE, 9, 0},
            {0, Integer.MAX_VALUE, 0}, {0, Integer.MIN_VALUE, 0}, {0, 1, Integer.MAX_VALUE}};
        for (int[] w : wrong) {
            Due.due("stop", x.stop(w[0], w[1], w[2], 0), REFUSED);
            Due.due("stop", x.stop(w[0], w[1], w[2], 1), REFUSED);
            Due.due("sells", x.sells(w[0], w[1], w[2]), -2);
        }
        Due.due("part -1", x.stop(5, 1, 0, -1), REFUSED);
        Due.due("part 2", x.stop(5, 1, 0, 2), REFUSED);
    }
}
