/** Promise 15: ring. */
public final class RingTest {
    public static void main(String[] args) {
        ordinary();
        againstSteps();
        refusals();
        Due.end();
    }

    private static void ordinary() {
        TwiceStolen x = new TwiceStolen();
        Due.due("behind 0 nights", x.ring(12345670, 3, 0, 0), 3);
        Due.due("behind 1 night", x.ring(12345670, 3, 1, 0), 4);
        Due.due("all to 7", x.ring(77777777, 0, 1, 0), 7);
        Due.due("first again", x.ring(77777777, 0, 0, 1), 2);
        Due.due("for ever", x.ring(77777777, 0, 0, 2), 1);
        Due.due("0 keeps it", x.ring(0, 0, 999999999, 0), 0);
        Due.due("0 keeps it", x.ring(0, 0, 999999999, 1), 1);
        Due.due("in pairs", x.ring(10325476, 6, 999999999, 0), 7);
        Due.due("in pairs", x.ring(10325476, 6, 999999998, 0), 6);
        Due.due("in pairs", x.ring(10325476, 6, 5, 1), 2);
        Due.due("in pairs", x.ring(10325476, 6, 5, 2), 2);
    }

    private static void againstSteps() {
        TwiceStolen x = new TwiceStolen();
        int drawn = 3;
        for (int run = 0; run < 500; run++) {
            int row = 0;
            int[] next = new int[8];
            for (int i = 0; i < 8; i++) {
                drawn = (75 * drawn + 74) % 65537;
                next[i] = drawn / 7 % 8;
                row = 10 * row + next[i];
            }
            for (int one = 0; one < 8; one++) {
                int with = one;
                int seen = 0;
                int night = 0;
                for (; (seen >> with & 1) == 0; night++) {
                    Due.due("ring " + row + " behind " + night, x.ring(row, one, night, 0), with);
                    seen |= 1 << with;
                    with = next[with];
                }
                Due.due("ring " + row + " first", x.ring(row, one, 0, 1), night);
                int round = 0;
                int at = with;
                do {
                    at = next[at];
                    round++;
                } while (at != with);
                Due.due("ring " + row + " round", x.ring(row, one, 0, 2), round);
                for (; night < 70; night++) {
                    Due.due("ring " + row + " behind " + night, x.ring(row, one, night, 0), with);
                    with = next[with];
                }
                // 840 is a multiple of each round there can be
                int late = 999999999;
                int soon = late % 840 + 840;
                Due.due("ring " + row + " late", x.ring(row, one, late, 0), x.ring(row, one, soon, 0));
            }
        }
    }

    private static void refusals() {
        TwiceStolen x = new TwiceStolen();
        Due.due("one -1", x.ring(0, -1, 0, 0), -1);
        Due.due("one 8", x.ring(0, 8, 0, 0), -1);
        Due.due("one 8, all else wrong", x.ring(-1, 8, -1, 3), -1);
        int[] rows = {-1, 8, 9, 80, 90000000, 77777778, 77787777, 100000000, 1000000000,
            Integer.MAX_VALUE, Integer.MIN_VALUE, -12345670};
        for (int row : rows) {
            for (int what = 0; what < 3; what++) {
                Due.due("row " + row, x.ring(row, 0, 0, what), -2);
            }
        }
        for (int what = 0; what < 3; what++) {
            Due.due("m -1", x.ring(0, 0, -1, what), -2);
            Due.due("m 1000000000", x.ring(0, 0, 1000000000, what), -2);
        }
        Due.due("what -1", x.ring(0, 0, 0, -1), -2);
        Due.due("what 3", x.ring(0, 0, 0, 3), -2);
    }
}
