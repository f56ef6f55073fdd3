import java.math.BigInteger;

/** Promise 23: doors. */
public final class DoorsTest {
    private static final long REFUSED = -1000000000000000002L;

    public static void main(String[] args) {
        TwiceStolen x = new TwiceStolen();
        Due.due("two to two doors", x.doors(2, 2, 0, 0), 1);
        Due.due("two to two doors", x.doors(2, 2, 0, 1), 2);
        Due.due("nobody, no two", x.doors(0, 10, 0, 0), 1);
        Due.due("nobody, no two", x.doors(0, 10, 0, 1), 1);
        Due.due("nobody, each door", x.doors(0, 10, 1, 0), 0);
        Due.due("nobody, each door", x.doors(0, 10, 1, 1), 1);
        Due.due("one door", x.doors(12, 1, 1, 0), 1);
        Due.due("one door", x.doors(12, 1, 1, 1), 1);
        Due.due("one door, no two", x.doors(12, 1, 0, 0), 0);
        Due.due("one door, no two", x.doors(12, 1, 0, 1), 1);
        againstCounting(x);
        againstFormula(x);
        refusals(x);
        Due.end();
    }

    private static void againstCounting(TwiceStolen x) {
        for (int n = 0; n <= 6; n++) {
            for (int d = 1; d <= 6; d++) {
                int all = 1;
                for (int i = 0; i < n; i++) {
                    all *= d;
                }
                int noTwo = 0;
                int each = 0;
                for (int way = 0; way < all; way++) {
                    int seen = 0;
                    int rest = way;
                    for (int i = 0; i < n; i++) {
                        seen |= 1 << rest % d;
                        rest /= d;
                    }
                    noTwo += Integer.bitCount(seen) == n ? 1 : 0;
                    each += Integer.bitCount(seen) == d ? 1 : 0;
                }
                fraction(x, n, d, 0, BigInteger.valueOf(noTwo));
                fraction(x, n, d, 1, BigInteger.valueOf(each));
            }
        }
    }

    private static void againstFormula(TwiceStolen x) {
        for (int n = 0; n <= 12; n++) {
            for (int d = 1; d <= 10; d++) {
                BigInteger noTwo = BigInteger.ONE;
                for (int i = 0; i < n; i++) {
                    noTwo = noTwo.multiply(BigInteger.valueOf(d - i));
                }
                fraction(x, n, d, 0, n > d ? BigInteger.ZERO : noTwo);
                BigInteger each = BigInteger.ZERO;
                BigInteger choose = BigInteger.ONE;
                for (int k = 0; k <= d; k++) {
                    BigInteger some = choose.multiply(BigInteger.valueOf(d - k).pow(n));
                    each = k % 2 == 0 ? each.add(some) : each.subtract(some);
                    choose = choose.multiply(BigInteger.valueOf(d - k)).divide(BigInteger.valueOf(k + 1));
                }
                fraction(x, n, d, 1, each);
            }
        }
    }

    private static void fraction(TwiceStolen x, int n, int d, int what, BigInteger ways) {
        BigInteger all = BigInteger.valueOf(d).pow(n);
        BigInteger common = ways.gcd(all);
        String call = "doors " + n + " " + d + " " + what;
        Due.due(call + " upper", x.doors(n, d, what, 0), ways.divide(common).longValueExact());
        Due.due(call + " lower", x.doors(n, d, what, 1), all.divide(common).longValueExact());
    }

    private static void refusals(TwiceStolen x) {
        int[][] wrong = {{-1, 1, 0, 0}, {13, 1, 0, 0}, {1, 0, 0, 0}, {1, 11, 0, 0}, {1, -1, 0, 0}, {1, 1, -1, 0},
            {1, 1, 2, 0}, {1, 1, 0, -1}, {1, 1, 0, 2}, {Integer.MAX_VALUE, Integer.MIN_VALUE, 0, 0}};
        for (int[] w : wrong) {
            Due.due("doors " + w[0] + " " + w[1] + " " + w[2] + " " + w[3], x.doors(w[0], w[1], w[2], w[3]), REFUSED);
        }
    }
}
