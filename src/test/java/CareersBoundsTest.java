/** SACK, CAREERS, RING and STOP, sentence by sentence, at their bounds. */
public final class CareersBoundsTest {
    private static final int OUTSIDE = -2;
    private static final long GONE_OUTSIDE = -1000000000000000002L;

    public static void main(String[] args) {
        weightInASack();
        justSoHeavy();
        oneSackBehindAnother();
        notWithTheOne();
        leastOfAsMuch();
        thievesAndSets();
        oneEachAtTheMost();
        notTwiceInANight();
        asOftenAsTheyWereTakenNow();
        ringRows();
        ringNights();
        ringFirstAgain();
        ringRound();
        whatIsNoMatter();
        stopDigits();
        stopRows();
        stopTenths();
        stopOverAtTheLast();
        leastTaking();
        sellsByItself();
        meansInLowestTerms();
        Due.end();
    }

    /** All twelve things with one, each of such worth and weight. */
    private static TwiceStolen allWith(int one, int worth, int weight) {
        TwiceStolen x = new TwiceStolen();
        for (int thing = 0; thing <= 11; thing++) {
            x.thing(thing, one, 0, worth, weight);
        }
        return x;
    }

    private static void sack(String call, TwiceStolen x, int one, int c, int worth, int things) {
        Due.due(call + ": how much", x.sack(one, c, 0), worth);
        Due.due(call + ": which", x.sack(one, c, 1), things);
    }

    private static void weightInASack() {
        Due.sentence("the most WORTH in all that is of c (0 to 99) in WEIGHT at the most");
        TwiceStolen x = allWith(1, 7, 9);
        sack("c 0", x, 0, 0, 0, 0);
        sack("c 99, all weigh 108", x, 0, 99, 77, 2047);
        sack("c 98", x, 0, 98, 70, 1023);
        Due.due("c -1", x.sack(0, -1, 0), OUTSIDE);
        Due.due("c 100", x.sack(0, 100, 0), OUTSIDE);
        Due.due("c -1, which", x.sack(0, -1, 1), OUTSIDE);
        Due.due("c 100, which", x.sack(0, 100, 1), OUTSIDE);
        x.thing(11, 1, 0, 99, 9);
        sack("the last is worth most", x, 0, 9, 99, 2048);
        x = allWith(1, 99, 1);
        sack("all, in so much as they weigh", x, 0, 12, 1188, 4095);
        sack("all but one", x, 0, 11, 1089, 2047);
        sack("all, with room left", x, 0, 99, 1188, 4095);
    }

    private static void justSoHeavy() {
        Due.sentence("the most WORTH in all that is of c (0 to 99) in WEIGHT at the most");
        for (int weight = 1; weight <= 9; weight++) {
            TwiceStolen x = allWith(1, 0, 1);
            x.thing(5, 1, 0, 50, weight);
            sack("one less than " + weight, x, 0, weight - 1, 0, 0);
            sack("just " + weight, x, 0, weight, 50, 32);
            sack("one more than " + weight, x, 0, weight + 1, 50, 32);
            x.thing(8, 1, 0, 40, weight);
            sack("one less than two", x, 0, 2 * weight - 1, 50, 32);
            sack("just two", x, 0, 2 * weight, 90, 288);
        }
    }

    private static void oneSackBehindAnother() {
        Due.sentence("SACK: how much (what = 0), which (1). UNKNOWN; OUTSIDE.");
        TwiceStolen x = allWith(1, 7, 9);
        sack("a full one", x, 0, 99, 77, 2047);
        sack("then a smaller one", x, 0, 18, 14, 3);
        sack("then an empty one", x, 0, 0, 0, 0);
        sack("then of another, who has all", x, 1, 99, 0, 0);
        Due.due("refused", x.sack(0, 100, 1), OUTSIDE);
        sack("then a full one", x, 0, 99, 77, 2047);
    }

    private static void notWithTheOne() {
        Due.sentence("SACK: of THINGS that are not with a ONE");
        for (int one = 0; one <= 7; one++) {
            int own = one <= 3 ? 257 << one : 1 << one;
            sack("all but those of " + one, new TwiceStolen(), one, 99, one <= 3 ? 50 : 55, 4095 - own);
            sack("all are with " + one, allWith(one, 9, 1), one, 99, 0, 0);
            sack("none is with " + one, allWith((one + 1) % 8, 9, 1), one, 99, 108, 4095);
        }
        TwiceStolen x = allWith(3, 9, 1);
        x.thing(11, 2, 0, 8, 1);
        sack("one is not", x, 3, 99, 8, 2048);
        x.one(2, 0, 0);
        sack("doors are no matter", x, 3, 99, 8, 2048);
    }

    private static void leastOfAsMuch() {
        Due.sentence("how much; which, least as bits of as much.");
        TwiceStolen x = allWith(1, 0, 1);
        sack("worth nothing", x, 0, 99, 0, 0);
        x.thing(11, 1, 0, 10, 2);
        sack("one only", x, 0, 2, 10, 2048);
        x.thing(0, 1, 0, 10, 2);
        sack("the first as well", x, 0, 2, 10, 1);
        x.thing(9, 1, 0, 4, 1);
        x.thing(10, 1, 0, 6, 1);
        sack("two as well as one", x, 0, 2, 10, 1);
        x.thing(0, 1, 0, 0, 2);
        sack("two below one", x, 0, 2, 10, 1536);
        x.thing(0, 1, 0, 0, 1);
        sack("what is worth nothing stays out", x, 0, 3, 16, 3072);
        sack("least of as much", allWith(1, 5, 3), 0, 8, 10, 3);
    }

    private static void thievesAndSets() {
        Due.sentence("CAREERS. OUTSIDE: n, the set 0 to 4095.");
        TwiceStolen x = new TwiceStolen();
        Due.due("one thief, no thing", x.careers(1, 0), 0);
        Due.due("eight thieves, no thing", x.careers(8, 0), 0);
        Due.due("one thief, all things", x.careers(1, 4095), 24);
        Due.due("eight thieves, all things", x.careers(8, 4095), 3);
        for (int n : new int[] {-1, 0, 9, 10}) {
            Due.due("thieves " + n, x.careers(n, 0), OUTSIDE);
            Due.due("thieves " + n, x.careers(n, 4095), OUTSIDE);
        }
        for (int set : new int[] {-1, 4096, 4097, 8191}) {
            Due.due("set " + set, x.careers(1, set), OUTSIDE);
            Due.due("set " + set, x.careers(8, set), OUTSIDE);
        }
        x.thing(0, 0, 1, 5, 1);
        x.thing(11, 0, 9, 5, 1);
        Due.due("the first thing alone", x.careers(1, 1), 1);
        Due.due("the last thing alone", x.careers(1, 2048), 0);
        Due.due("each other thing alone", x.careers(1, 1024), 2);
    }

    private static void oneEachAtTheMost() {
        Due.sentence("each night each of them takes one at the most");
        TwiceStolen x = new TwiceStolen();
        int[] due = {24, 12, 8, 6, 5, 4, 4, 3};
        for (int n = 1; n <= 8; n++) {
            Due.due("twelve things, thieves " + n, x.careers(n, 4095), due[n - 1]);
        }
        for (int thing = 0; thing <= 11; thing++) {
            x.thing(thing, 0, 1, 5, 1);
        }
        int[] once = {12, 6, 4, 3, 3, 2, 2, 2};
        for (int n = 1; n <= 8; n++) {
            Due.due("twelve taken once, thieves " + n, x.careers(n, 4095), once[n - 1]);
        }
        Due.due("eight by eight", x.careers(8, 255), 1);
        Due.due("nine by eight", x.careers(8, 511), 2);
        Due.due("eight by seven", x.careers(7, 255), 2);
    }

    private static void notTwiceInANight() {
        Due.sentence("no THING is taken twice in a night");
        TwiceStolen x = new TwiceStolen();
        for (int n = 1; n <= 8; n++) {
            Due.due("one thing, thieves " + n, x.careers(n, 16), 2);
            Due.due("two things, thieves " + n, x.careers(n, 2064), n == 1 ? 4 : 2);
        }
        Due.due("eight things, eight thieves", x.careers(8, 255), 2);
        x.thing(0, 0, 1, 5, 1);
        Due.due("one wants one, one wants two, by three", x.careers(3, 3), 2);
        Due.due("one wants one, one wants two, by two", x.careers(2, 3), 2);
    }

    private static void asOftenAsTheyWereTakenNow() {
        Due.sentence("(by how often they were TAKEN now; nothing else matters)");
        TwiceStolen x = new TwiceStolen();
        int[] due = {2, 1, 0, 0, 0, 0, 0, 0, 0, 0};
        for (int taken = 0; taken <= 9; taken++) {
            x.thing(6, 6, taken, 5, 1);
            Due.due("taken " + taken, x.careers(1, 64), due[taken]);
            Due.due("taken " + taken + ", and one more thing", x.careers(1, 65), due[taken] + 2);
            Due.due("taken " + taken + ", and two more things", x.careers(1, 67), due[taken] + 4);
        }
        x.thing(6, 6, 1, 0, 9);
        x.one(6, 0, 0);
        x.brothers(0, 6, true);
        Due.text(x, "AgBgCg!");
        Due.due("worth, doors, brothers and the pad are no matter", x.careers(8, 64), 1);
    }

    private static void ringRows() {
        Due.sentence("by a row of eight digits (0 to 7)");
        TwiceStolen x = new TwiceStolen();
        Due.due("the least row", x.ring(0, 5, 1, 0), 0);
        Due.due("the most row", x.ring(77777777, 5, 1, 0), 7);
        Due.due("row -1", x.ring(-1, 5, 1, 0), OUTSIDE);
        Due.due("row 77777778", x.ring(77777778, 5, 1, 0), OUTSIDE);
        Due.due("row 99999999", x.ring(99999999, 5, 1, 0), OUTSIDE);
        Due.due("row 100000000", x.ring(100000000, 5, 1, 0), OUTSIDE);
        Due.due("nine digits, the last eight are a row", x.ring(112345670, 5, 1, 0), OUTSIDE);
        Due.due("below nought, the digits are a row", x.ring(-12345670, 5, 1, 0), OUTSIDE);
        int unit = 1;
        for (int one = 7; one >= 0; one--) {
            Due.due("digit 7 at " + one, x.ring(7 * unit, one, 1, 0), 7);
            Due.due("digit 8 at " + one, x.ring(8 * unit, one, 1, 0), OUTSIDE);
            Due.due("digit 9 at " + one, x.ring(9 * unit, one, 1, 0), OUTSIDE);
            Due.due("digit 9 at " + one + " is no matter to 0", x.ring(9 * unit, 0, 0, 0), OUTSIDE);
            unit *= 10;
        }
    }

    private static void ringNights() {
        Due.sentence("with whom those of a ONE are behind m nights (0 to 999999999)");
        TwiceStolen x = new TwiceStolen();
        for (int one = 0; one <= 7; one++) {
            Due.due("behind 0 nights", x.ring(12345670, one, 0, 0), one);
            Due.due("behind 1 night", x.ring(12345670, one, 1, 0), (one + 1) % 8);
            Due.due("behind 7 nights", x.ring(12345670, one, 7, 0), (one + 7) % 8);
            Due.due("behind 8 nights it is round", x.ring(12345670, one, 8, 0), one);
            Due.due("behind 9 nights", x.ring(12345670, one, 9, 0), (one + 1) % 8);
            Due.due("behind 999999999 nights", x.ring(12345670, one, 999999999, 0), (one + 7) % 8);
            Due.due("behind 999999998 nights", x.ring(12345670, one, 999999998, 0), (one + 6) % 8);
        }
        for (int m = 0; m <= 20; m++) {
            // 0 to 1 to 2 to 3 to 4, and 4 to 2 again
            Due.due("a way into a round of three, " + m, x.ring(12342567, 0, m, 0), m < 2 ? m : 2 + (m - 2) % 3);
        }
        for (int m : new int[] {1, 2, 7, 8, 9, 999999999}) {
            Due.due("to one who keeps them, " + m, x.ring(77777777, 0, m, 0), 7);
            Due.due("he keeps them, " + m, x.ring(1234567, 5, m, 0), 5);
        }
        Due.due("m -1", x.ring(12345670, 0, -1, 0), OUTSIDE);
        Due.due("m 1000000000", x.ring(12345670, 0, 1000000000, 0), OUTSIDE);
    }

    private static void ringFirstAgain() {
        Due.sentence("behind how many nights they are first with one with whom they were before");
        TwiceStolen x = new TwiceStolen();
        Due.due("he keeps them", x.ring(1234567, 5, 0, 1), 1);
        Due.due("two by turns", x.ring(10234567, 0, 0, 1), 2);
        Due.due("to one who keeps them", x.ring(77777777, 0, 0, 1), 2);
        Due.due("all eight in a round", x.ring(12345670, 3, 0, 1), 8);
        Due.due("all eight, the last keeps them", x.ring(12345677, 0, 0, 1), 8);
        Due.due("seven, the last keeps them", x.ring(12345677, 1, 0, 1), 7);
    }

    private static void ringRound() {
        Due.sentence("round by how many ONES they go for ever then.");
        TwiceStolen x = new TwiceStolen();
        Due.due("he keeps them", x.ring(1234567, 5, 0, 2), 1);
        Due.due("two by turns", x.ring(10234567, 0, 0, 2), 2);
        Due.due("to one who keeps them", x.ring(77777777, 0, 0, 2), 1);
        Due.due("all eight in a round", x.ring(12345670, 3, 0, 2), 8);
        Due.due("all eight, the last keeps them", x.ring(12345677, 0, 0, 2), 1);
        Due.due("all eight, the last two by turns", x.ring(12345676, 0, 0, 2), 2);
        Due.due("another round is no matter", x.ring(10345672, 0, 0, 2), 2);
    }

    private static void whatIsNoMatter() {
        Due.sentence("(2; m is no matter for both, but as told)");
        TwiceStolen x = new TwiceStolen();
        for (int m : new int[] {0, 1, 7, 8, 999999999}) {
            Due.due("how many nights, m " + m, x.ring(12345673, 0, m, 1), 8);
            Due.due("how many ones, m " + m, x.ring(12345673, 0, m, 2), 5);
        }
        for (int m : new int[] {-1, 1000000000}) {
            Due.due("how many nights, m " + m, x.ring(12345673, 0, m, 1), OUTSIDE);
            Due.due("how many ones, m " + m, x.ring(12345673, 0, m, 2), OUTSIDE);
        }
    }

    private static void stop(int row, int n, int t, long upper, long lower, int taking) {
        TwiceStolen x = new TwiceStolen();
        String call = "(" + row + ", " + n + ", " + t + ")";
        Due.due("stop" + call + " upper", x.stop(row, n, t, 0), upper);
        Due.due("stop" + call + " lower", x.stop(row, n, t, 1), lower);
        Due.due("sells" + call, x.sells(row, n, t), taking);
    }

    private static void stopIsOutside(int row, int n, int t) {
        TwiceStolen x = new TwiceStolen();
        String call = "(" + row + ", " + n + ", " + t + ")";
        Due.due("stop" + call + " upper", x.stop(row, n, t, 0), GONE_OUTSIDE);
        Due.due("stop" + call + " lower", x.stop(row, n, t, 1), GONE_OUTSIDE);
        Due.due("sells" + call, x.sells(row, n, t), OUTSIDE);
    }

    private static void stopDigits() {
        Due.sentence("a thing is worth by a row of n digits (1 to 9; noughts ahead)");
        stop(7, 1, 5, 7, 1, 0);
        stop(123456789, 9, 0, 9, 1, 8);
        stopIsOutside(0, 0, 5);
        stopIsOutside(0, 10, 5);
        stopIsOutside(0, -1, 5);
        // noughts ahead: worth nothing until it was taken so often
        stop(8, 2, 5, 4, 1, 1);
        stop(8, 3, 5, 2, 1, 2);
        stop(8, 9, 5, 1, 32, 8);
        stop(0, 9, 5, 0, 1, 0);
    }

    private static void stopRows() {
        Due.sentence("STOP: the mean, a fraction. OUTSIDE: n, a row of more digits, t, part.");
        int past = 1;
        for (int n = 1; n <= 9; n++) {
            past *= 10;
            stop(past - 1, n, 5, 9, 1, 0);
            stopIsOutside(past, n, 5);
            stopIsOutside(past + 1, n, 5);
            stop(0, n, 5, 0, 1, 0);
            stopIsOutside(-1, n, 5);
        }
        stopIsOutside(Integer.MAX_VALUE, 9, 5);
        stopIsOutside(Integer.MIN_VALUE, 9, 5);
        TwiceStolen x = new TwiceStolen();
        Due.due("part -1", x.stop(5, 1, 5, -1), GONE_OUTSIDE);
        Due.due("part 2", x.stop(5, 1, 5, 2), GONE_OUTSIDE);
    }

    private static void stopTenths() {
        Due.sentence("at each taking it is lost with t tenths (0 to 10; worth 0 then, and over)");
        stop(123456789, 9, 0, 9, 1, 8);
        stop(12, 2, 1, 9, 5, 1);
        stop(19, 2, 9, 1, 1, 0);
        stop(9, 2, 9, 9, 10, 1);
        stop(123456789, 9, 10, 1, 1, 0);
        stop(9, 2, 10, 0, 1, 0);
        stop(99999999, 9, 10, 0, 1, 0);
        stopIsOutside(12, 2, -1);
        stopIsOutside(12, 2, 11);
    }

    private static void stopOverAtTheLast() {
        Due.sentence("one may sell at any time, behind the last taking at the latest");
        stop(1, 9, 0, 1, 1, 8);
        stop(1, 9, 9, 1, 100000000, 8);
        stop(1, 2, 0, 1, 1, 1);
        stop(1, 1, 0, 1, 1, 0);
        stop(900000001, 9, 0, 9, 1, 0);
    }

    private static void leastTaking() {
        Due.sentence("the least by which it is as well (0: now).");
        stop(11, 2, 0, 1, 1, 0);
        stop(999999999, 9, 0, 9, 1, 0);
        stop(12, 2, 5, 1, 1, 0);
        stop(13, 2, 5, 3, 2, 1);
        stop(1248, 4, 5, 1, 1, 0);
        stop(124, 4, 5, 1, 2, 1);
        stop(1249, 4, 5, 9, 8, 3);
        stop(45, 2, 2, 4, 1, 0);
        stop(123456789, 9, 2, 256, 125, 3);
        stop(99, 4, 0, 9, 1, 2);
    }

    private static void sellsByItself() {
        Due.sentence("STOP: at which taking. OUTSIDE.");
        TwiceStolen x = new TwiceStolen();
        Due.due("at the last", x.sells(123456789, 9, 0), 8);
        Due.due("refused", x.sells(10, 1, 0), OUTSIDE);
        Due.due("then now", x.sells(9, 1, 0), 0);
        Due.due("then now, of two", x.sells(91, 2, 0), 0);
        Due.due("at the last of nine", x.sells(123456789, 9, 0), 8);
        Due.due("digits of another row are no matter", x.sells(11, 2, 0), 0);
        Due.due("then at the last of two", x.sells(19, 2, 0), 1);
        Due.due("a mean of another row", x.stop(123456789, 9, 0, 0), 9);
        Due.due("then now", x.sells(91, 2, 0), 0);
    }

    private static void meansInLowestTerms() {
        Due.sentence("Fractions are told in lowest terms by part: 0 the upper, 1 the lower number;");
        stop(5, 1, 0, 5, 1, 0);
        stop(5, 2, 5, 5, 2, 1);
        stop(5, 2, 6, 2, 1, 1);
        stop(0, 2, 5, 0, 1, 0);
        stop(9, 9, 1, 387420489, 100000000, 8);
        stop(8, 9, 5, 1, 32, 8);
        stop(5, 9, 2, 65536, 78125, 8);
    }
}
