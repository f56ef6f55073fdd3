import java.util.ArrayList;
import java.util.List;

/** Promises 18 to 21: ahead, forget, fits, ask. */
public final class SightsTest {
    public static void main(String[] args) {
        counting();
        rows();
        questions();
        againstAllRows();
        refusals();
        Due.end();
    }

    private static void counting() {
        TwiceStolen x = new TwiceStolen();
        Due.due("forget nothing", x.forget(), 0);
        for (int i = 1; i <= 8; i++) {
            Due.due("the same sight counts", x.ahead(4, 0), i);
        }
        Due.due("a ninth", x.ahead(4, 0), -4);
        Due.due("a ninth, outside", x.ahead(4, 4), -2);
        Due.due("told", x.told(3), 8);
        Due.due("60 fit", x.fits(-1), 60);
        Due.due("forget", x.forget(), 8);
        Due.due("told", x.told(3), 0);
        Due.due("120 fit", x.fits(-1), 120);
        Due.due("anew", x.ahead(0, 4), 1);
    }

    private static void rows() {
        TwiceStolen x = new TwiceStolen();
        Due.due("all", x.fits(-1), 120);
        Due.due("the first", x.fits(0), 1234);
        Due.due("the second", x.fits(1), 1243);
        Due.due("the 24th", x.fits(23), 4321);
        Due.due("the 25th", x.fits(24), 10234);
        Due.due("the last", x.fits(119), 43210);
        Due.due("no more", x.fits(120), -6);
        Due.due("below -1", x.fits(-2), -6);
        Due.due("far below", x.fits(Integer.MIN_VALUE), -6);
        Due.due("far above", x.fits(Integer.MAX_VALUE), -6);
        x.ahead(4, 3);
        x.ahead(3, 2);
        x.ahead(2, 1);
        x.ahead(1, 0);
        Due.due("one row", x.fits(-1), 1);
        Due.due("one row", x.fits(0), 43210);
        Due.due("no second", x.fits(1), -6);
        x.ahead(0, 4);
        Due.due("no row", x.fits(-1), 0);
        Due.due("no row", x.fits(0), -6);
        Due.due("below -1", x.fits(-2), -6);
    }

    private static void questions() {
        TwiceStolen x = new TwiceStolen();
        Due.due("ask first", x.ask(0), 1);
        Due.due("60 left", x.ask(1), 60);
        x.ahead(0, 1);
        Due.due("ask then", x.ask(0), 23);
        Due.due("30 left", x.ask(1), 30);
        x.ahead(0, 1);
        Due.due("the same again", x.ask(1), 30);
        x.ahead(1, 0);
        Due.due("nothing fits", x.ask(0), -6);
        Due.due("nothing fits", x.ask(1), -6);
    }

    private static void againstAllRows() {
        int drawn = 5;
        for (int run = 0; run < 300; run++) {
            TwiceStolen x = new TwiceStolen();
            int[][] sights = new int[run % 9][];
            for (int i = 0; i < sights.length; i++) {
                drawn = (75 * drawn + 74) % 65537;
                int a = drawn % 5;
                int b = (a + 1 + drawn / 5 % 4) % 5;
                // rows that contradict themselves each time would teach little
                sights[i] = run % 3 != 0 ? new int[] {Math.min(a, b), Math.max(a, b)} : new int[] {a, b};
                x.ahead(sights[i][0], sights[i][1]);
            }
            List<String> fit = new ArrayList<>();
            for (int number = 0; number <= 43210; number++) {
                String row = String.format("%05d", number);
                if (isRow(row) && holds(row, sights)) {
                    fit.add(row);
                }
            }
            Due.due("run " + run + " fits", x.fits(-1), fit.size());
            for (int i = 0; i < fit.size(); i++) {
                Due.due("run " + run + " fits " + i, x.fits(i), Integer.parseInt(fit.get(i)));
            }
            Due.due("run " + run + " no more", x.fits(fit.size()), -6);
            asked(run, x, fit);
        }
    }

    private static void asked(int run, TwiceStolen x, List<String> fit) {
        int question = -6;
        int least = -6;
        for (int a = 0; a < 5 && !fit.isEmpty(); a++) {
            for (int b = a + 1; b < 5; b++) {
                int first = 0;
                for (String row : fit) {
                    first += row.indexOf('0' + a) < row.indexOf('0' + b) ? 1 : 0;
                }
                int most = Math.max(first, fit.size() - first);
                if (question < 0 || most < least) {
                    question = 10 * a + b;
                    least = most;
                }
            }
        }
        Due.due("run " + run + " ask(0)", x.ask(0), question);
        Due.due("run " + run + " ask(1)", x.ask(1), least);
    }

    private static boolean isRow(String row) {
        for (char digit = '0'; digit < '5'; digit++) {
            if (row.indexOf(digit) < 0) {
                return false;
            }
        }
        return true;
    }

    private static boolean holds(String row, int[][] sights) {
        for (int[] sight : sights) {
            if (row.indexOf('0' + sight[0]) > row.indexOf('0' + sight[1])) {
                return false;
            }
        }
        return true;
    }

    private static void refusals() {
        TwiceStolen x = new TwiceStolen();
        Due.due("a -1", x.ahead(-1, 0), -2);
        Due.due("a 5", x.ahead(5, 0), -2);
        Due.due("b -1", x.ahead(0, -1), -2);
        Due.due("b 5", x.ahead(0, 5), -2);
        Due.due("both one", x.ahead(2, 2), -2);
        Due.due("no sight of these", x.told(3), 0);
        Due.due("what -1", x.ask(-1), -2);
        Due.due("what 2", x.ask(2), -2);
        x.ahead(0, 1);
        x.ahead(1, 0);
        Due.due("what 2, nothing fits", x.ask(2), -2);
    }
}
