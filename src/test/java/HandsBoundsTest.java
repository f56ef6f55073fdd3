/** SIGHTS, FITS, ASK, SHELF and DOORS, sentence by sentence, at their bounds. */
public final class HandsBoundsTest {
    private static final int OUTSIDE = -2;
    private static final int FULL = -4;
    private static final int NONE = -6;
    private static final long GONE_OUTSIDE = -1000000000000000002L;

    public static void main(String[] args) {
        fiveHands();
        eightSights();
        aheadOf();
        forgetting();
        allThatFit();
        belowMinusOne();
        whichTwo();
        fewestLeft();
        nothingFits();
        rowsAndPlaces();
        whoTakesTheFirst();
        whatGoes();
        pointsAtFirst();
        thievesAndDoors();
        noTwoToOne();
        eachIsGoneTo();
        chancesInLowestTerms();
        Due.end();
    }

    private static TwiceStolen sights(int... pairs) {
        TwiceStolen x = new TwiceStolen();
        for (int i = 0; i < pairs.length; i++) {
            Due.due("sight " + pairs[i], x.ahead(pairs[i] / 10, pairs[i] % 10), i + 1);
        }
        return x;
    }

    private static void fiveHands() {
        Due.sentence("A THING went through the hands of five, 0 to 4, each once.");
        for (int a = 0; a <= 4; a++) {
            for (int b = 0; b <= 4; b++) {
                TwiceStolen x = new TwiceStolen();
                Due.due("ahead " + a + " " + b, x.ahead(a, b), a == b ? OUTSIDE : 1);
                Due.due("told", x.told(3), a == b ? 0 : 1);
                Due.due("fit", x.fits(-1), a == b ? 120 : 60);
            }
        }
        TwiceStolen x = new TwiceStolen();
        for (int none : new int[] {-1, 5}) {
            Due.due("ahead " + none + " 0", x.ahead(none, 0), OUTSIDE);
            Due.due("ahead 4 " + none, x.ahead(4, none), OUTSIDE);
        }
        Due.due("told", x.told(3), 0);
    }

    private static void eightSights() {
        Due.sentence("SIGHTS, 8 at most");
        TwiceStolen x = sights(1, 1, 1, 1, 1, 1, 1);
        Due.due("60 fit by seven that are one", x.fits(-1), 60);
        Due.due("the eighth", x.ahead(3, 4), 8);
        Due.due("told", x.told(3), 8);
        Due.due("30 fit by the eighth, too", x.fits(-1), 30);
        Due.due("the ninth", x.ahead(2, 0), FULL);
        Due.due("the ninth, outside", x.ahead(2, 5), OUTSIDE);
        Due.due("the ninth, both one", x.ahead(2, 2), OUTSIDE);
        Due.due("told", x.told(3), 8);
        Due.due("30 fit", x.fits(-1), 30);
        Due.due("all go", x.forget(), 8);
        Due.due("the first again", x.ahead(2, 0), 1);
        Due.due("60 fit", x.fits(-1), 60);
    }

    private static void aheadOf() {
        Due.sentence("a had it ahead of b (or b ahead of a)");
        Due.due("0 ahead of 4", sights(4).fits(0), 1234);
        Due.due("4 ahead of 0", sights(40).fits(0), 12340);
        Due.due("both fit no row", sights(4, 40).fits(-1), 0);
        Due.due("one by one", sights(43, 32, 21, 10).fits(0), 43210);
        Due.due("round", sights(43, 32, 21, 10, 4).fits(-1), 0);
    }

    private static void forgetting() {
        Due.sentence("SIGHTS go: how many there were.");
        TwiceStolen x = new TwiceStolen();
        Due.due("none", x.forget(), 0);
        x.ahead(1, 0);
        Due.due("one", x.forget(), 1);
        Due.due("none again", x.forget(), 0);
        Due.due("told", x.told(3), 0);
        Due.due("all fit", x.fits(-1), 120);
        Due.due("ask anew", x.ask(0), 1);
    }

    private static void allThatFit() {
        Due.sentence("FITS: rows of five digits, by which all SIGHTS are so: how many; the i-th (rising).");
        TwiceStolen x = new TwiceStolen();
        Due.due("all", x.fits(-1), 120);
        Due.due("the first", x.fits(0), 1234);
        Due.due("the last", x.fits(119), 43210);
        Due.due("behind the last", x.fits(120), NONE);
        int before = 0;
        for (int i = 0; i < 120; i++) {
            int row = x.fits(i);
            Due.due("rising", row > before ? 1 : 0, 1);
            before = row;
        }
        x = sights(43, 42, 41);
        Due.due("thirty", x.fits(-1), 30);
        Due.due("the first", x.fits(0), 4123);
        Due.due("the last", x.fits(29), 43210);
        Due.due("behind the last", x.fits(30), NONE);
        x = sights(34, 42, 21, 10);
        Due.due("one", x.fits(-1), 1);
        Due.due("the first", x.fits(0), 34210);
        Due.due("behind the first", x.fits(1), NONE);
        x = sights(1, 10);
        Due.due("none", x.fits(-1), 0);
        Due.due("no first", x.fits(0), NONE);
    }

    private static void belowMinusOne() {
        Due.sentence("FITS: how many (i = -1), the i-th; NONE (i below -1, too).");
        for (TwiceStolen x : new TwiceStolen[] {new TwiceStolen(), sights(1, 10)}) {
            for (int i : new int[] {-2, -3, -100, Integer.MIN_VALUE, 120, 1000, Integer.MAX_VALUE}) {
                Due.due("fits " + i, x.fits(i), NONE);
            }
        }
    }

    private static void whichTwo() {
        Due.sentence("10 times a, and b (a below b) of the two to ask about next");
        Due.due("the first two", new TwiceStolen().ask(0), 1);
        Due.due("the last two", sights(1, 12, 23, 24).ask(0), 34);
        Due.due("0 and 1, the least of all that do", sights(43, 32, 42).ask(0), 1);
        TwiceStolen x = sights(40, 41, 42, 43, 10, 21, 31);
        Due.due("2 and 3 are left", x.ask(0), 23);
        Due.due("one is left then", x.ask(1), 1);
        Due.due("ask -1", x.ask(-1), OUTSIDE);
        Due.due("ask 2", x.ask(2), OUTSIDE);
    }

    private static void fewestLeft() {
        Due.sentence("so that, whatever is told, fewest of these are left at the most: the least; how many; NONE.");
        TwiceStolen x = new TwiceStolen();
        Due.due("60 of 120", x.ask(1), 60);
        Due.due("the least of ten that do", x.ask(0), 1);
        x = sights(1, 12, 23);
        Due.due("2 or 3 of 5", x.ask(1), 3);
        Due.due("the first that does, not 04", x.ask(0), 14);
        x = sights(1, 12, 23, 34);
        Due.due("the one that fits stays", x.ask(1), 1);
        Due.due("whichever is asked", x.ask(0), 1);
        x = sights(43, 32, 21, 10);
        Due.due("the one that fits stays", x.ask(1), 1);
        Due.due("whichever is asked", x.ask(0), 1);
    }

    private static void nothingFits() {
        Due.sentence("ASK: which two (what = 0), how many (1); NONE: nothing fits. OUTSIDE.");
        TwiceStolen x = sights(12, 21);
        Due.due("which two", x.ask(0), NONE);
        Due.due("how many", x.ask(1), NONE);
        Due.due("what -1", x.ask(-1), OUTSIDE);
        Due.due("what 2", x.ask(2), OUTSIDE);
        x.forget();
        Due.due("all fit again", x.ask(1), 60);
    }

    private static void rowsAndPlaces() {
        Due.sentence("SHELF: things in h rows (1 to 5) of w (1 to 5) each");
        TwiceStolen x = new TwiceStolen();
        for (int h = -1; h <= 7; h++) {
            for (int w = -1; w <= 7; w++) {
                boolean is = h >= 1 && h <= 5 && w >= 1 && w <= 5;
                boolean isOne = h == 1 && w == 1;
                String call = "shelf " + h + " " + w;
                Due.due(call + " whether", x.shelf(h, w, 0), !is ? OUTSIDE : isOne ? 0 : 1);
                int first = x.shelf(h, w, 1);
                Due.due(call + " what", !is ? first : isOne ? first : NONE, !is ? OUTSIDE : NONE);
            }
        }
        Due.due("what -1", x.shelf(2, 2, -1), OUTSIDE);
        Due.due("what 2", x.shelf(2, 2, 2), OUTSIDE);
    }

    private static void whoTakesTheFirst() {
        Due.sentence("who takes that of row 0 and place 0 has lost");
        TwiceStolen x = new TwiceStolen();
        Due.due("there is that alone", x.shelf(1, 1, 0), 0);
        Due.due("nothing to point at for it", x.shelf(1, 1, 1), NONE);
        Due.due("one beside it", x.shelf(1, 2, 0), 1);
        Due.due("one above it", x.shelf(2, 1, 0), 1);
    }

    private static void whatGoes() {
        Due.sentence("it goes, and all that are in its row or in rows above it, and in its place or farther on");
        TwiceStolen x = new TwiceStolen();
        for (int side = 2; side <= 5; side++) {
            Due.due("a row of " + side, x.shelf(1, side, 1), 1);
            Due.due("a pile of " + side, x.shelf(side, 1, 1), 10);
            Due.due("a square of " + side, x.shelf(side, side, 1), 11);
            Due.due("two rows of " + side, x.shelf(2, side, 1), 10 + side - 1);
            Due.due("two places, rows " + side, x.shelf(side, 2, 1), 10 * (side - 1) + 1);
        }
        Due.due("5 rows of 4", x.shelf(5, 4, 1) % 10 * 10 + x.shelf(5, 4, 1) / 10, x.shelf(4, 5, 1));
        Due.due("3 rows of 5", x.shelf(3, 5, 1), 23);
        Due.due("5 rows of 3", x.shelf(5, 3, 1), 32);
    }

    private static void pointsAtFirst() {
        Due.sentence("10 times the row (0 the lowest) and the place (0 on), the least (NONE).");
        TwiceStolen x = new TwiceStolen();
        Due.due("row 0, place 1", x.shelf(1, 5, 1), 1);
        Due.due("row 1, place 0", x.shelf(5, 1, 1), 10);
        Due.due("row 1, place 4", x.shelf(2, 5, 1), 14);
        Due.due("row 4, place 1", x.shelf(5, 2, 1), 41);
        Due.due("none", x.shelf(1, 1, 1), NONE);
        Due.due("row 0, place 1 again", x.shelf(1, 2, 1), 1);
    }

    private static void chance(int n, int d, int what, long upper, long lower) {
        TwiceStolen x = new TwiceStolen();
        String call = "doors " + n + " " + d + " " + what;
        Due.due(call + " upper", x.doors(n, d, what, 0), upper);
        Due.due(call + " lower", x.doors(n, d, what, 1), lower);
    }

    private static void thievesAndDoors() {
        Due.sentence("DOORS: n thieves (0 to 12) each go to one of d DOORS (1 to 10), each as likely");
        chance(0, 1, 0, 1, 1);
        chance(0, 1, 1, 0, 1);
        chance(12, 10, 0, 0, 1);
        chance(12, 10, 1, 193347, 31250000);
        chance(12, 1, 1, 1, 1);
        chance(0, 10, 0, 1, 1);
        TwiceStolen x = new TwiceStolen();
        for (int n = -2; n <= 14; n++) {
            for (int d = -2; d <= 12; d++) {
                boolean is = n >= 0 && n <= 12 && d >= 1 && d <= 10;
                for (int part = 0; part <= 1; part++) {
                    long told = x.doors(n, d, 0, part);
                    Due.due("doors " + n + " " + d, is ? told >= 0 ? 1 : 0 : told, is ? 1 : GONE_OUTSIDE);
                    told = x.doors(n, d, 1, part);
                    Due.due("doors " + n + " " + d, is ? told >= 0 ? 1 : 0 : told, is ? 1 : GONE_OUTSIDE);
                }
            }
        }
        for (int wrong : new int[] {-1, 2}) {
            Due.due("what " + wrong, x.doors(3, 3, wrong, 0), GONE_OUTSIDE);
            Due.due("part " + wrong, x.doors(3, 3, 0, wrong), GONE_OUTSIDE);
        }
    }

    private static void noTwoToOne() {
        Due.sentence("that no two go to one; that each DOOR is gone to.");
        for (int d = 1; d <= 10; d++) {
            chance(0, d, 0, 1, 1);
            chance(1, d, 0, 1, 1);
            chance(2, d, 0, d == 1 ? 0 : d - 1, d == 1 ? 1 : d);
            chance(d + 1, d, 0, 0, 1);
        }
        chance(2, 2, 0, 1, 2);
        chance(3, 3, 0, 2, 9);
        chance(10, 10, 0, 567, 1562500);
        chance(9, 10, 0, 567, 156250);
        chance(12, 9, 0, 0, 1);
    }

    private static void eachIsGoneTo() {
        Due.sentence("that no two go to one; that each DOOR is gone to.");
        for (int d = 1; d <= 10; d++) {
            chance(d - 1, d, 1, 0, 1);
            TwiceStolen x = new TwiceStolen();
            Due.due("just as many, " + d, x.doors(d, d, 1, 0), x.doors(d, d, 0, 0));
            Due.due("just as many, " + d, x.doors(d, d, 1, 1), x.doors(d, d, 0, 1));
            Due.due("one thief more, " + d, x.doors(d + 1, d, 1, 0) > 0 ? 1 : 0, 1);
        }
        chance(1, 1, 1, 1, 1);
        chance(3, 2, 1, 3, 4);
        chance(12, 2, 1, 2047, 2048);
    }

    private static void chancesInLowestTerms() {
        Due.sentence("Fractions are told in lowest terms by part: 0 the upper, 1 the lower number;");
        chance(3, 2, 0, 0, 1);
        chance(5, 1, 1, 1, 1);
        chance(4, 4, 0, 3, 32);
        chance(4, 4, 1, 3, 32);
        chance(3, 6, 0, 5, 9);
    }
}
