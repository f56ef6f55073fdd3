import java.util.HashMap;
import java.util.Map;

/** Promise 22: shelf. */
public final class ShelfTest {
    public static void main(String[] args) {
        TwiceStolen x = new TwiceStolen();
        Due.due("one thing is lost", x.shelf(1, 1, 0), 0);
        Due.due("one thing is lost", x.shelf(1, 1, 1), -6);
        Due.due("a row", x.shelf(1, 5, 1), 1);
        Due.due("a pile", x.shelf(5, 1, 1), 10);
        Due.due("a square", x.shelf(4, 4, 1), 11);
        Due.due("two rows", x.shelf(2, 5, 1), 14);
        Due.due("two rows, up", x.shelf(5, 2, 1), 41);
        againstPlay();
        refusals();
        Due.end();
    }

    private static void againstPlay() {
        Map<String, Boolean> known = new HashMap<>();
        for (int h = 1; h <= 5; h++) {
            for (int w = 1; w <= 5; w++) {
                boolean[][] there = new boolean[h][w];
                for (boolean[] row : there) {
                    java.util.Arrays.fill(row, true);
                }
                int first = firstWinning(there, known);
                TwiceStolen x = new TwiceStolen();
                Due.due("shelf " + h + " " + w + " what", x.shelf(h, w, 1), first);
                Due.due("shelf " + h + " " + w + " whether", x.shelf(h, w, 0), first < 0 ? 0 : 1);
                Due.due("shelf " + h + " " + w + " again", x.shelf(h, w, 1), first);
            }
        }
    }

    // by the words of the document, thing by thing
    private static int firstWinning(boolean[][] there, Map<String, Boolean> known) {
        for (int row = 0; row < there.length; row++) {
            for (int place = 0; place < there[0].length; place++) {
                boolean isLosing = row == 0 && place == 0;
                if (there[row][place] && !isLosing && !canWin(after(there, row, place), known)) {
                    return 10 * row + place;
                }
            }
        }
        return -6;
    }

    private static boolean canWin(boolean[][] there, Map<String, Boolean> known) {
        String key = java.util.Arrays.deepToString(there);
        Boolean before = known.get(key);
        if (before == null) {
            before = firstWinning(there, known) >= 0;
            known.put(key, before);
        }
        return before;
    }

    private static boolean[][] after(boolean[][] there, int row, int place) {
        boolean[][] left = new boolean[there.length][];
        for (int r = 0; r < there.length; r++) {
            left[r] = there[r].clone();
            for (int p = 0; p < left[r].length; p++) {
                left[r][p] &= !(r >= row && p >= place);
            }
        }
        return left;
    }

    private static void refusals() {
        TwiceStolen x = new TwiceStolen();
        int[][] wrong = {{0, 1, 0}, {6, 1, 0}, {-1, 1, 0}, {1, 0, 0}, {1, 6, 0}, {1, -1, 0}, {1, 1, -1}, {1, 1, 2},
            {Integer.MAX_VALUE, Integer.MIN_VALUE, 0}};
        for (int[] w : wrong) {
            Due.due("shelf " + w[0] + " " + w[1] + " " + w[2], x.shelf(w[0], w[1], w[2]), -2);
        }
    }
}
