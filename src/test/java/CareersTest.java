import java.util.HashMap;
import java.util.Map;

/** Promise 14: careers. */
public final class CareersTest {
    public static void main(String[] args) {
        ordinary();
        againstSearch();
        refusals();
        Due.end();
    }

    private static void ordinary() {
        TwiceStolen x = new TwiceStolen();
        Due.due("nothing", x.careers(1, 0), 0);
        Due.due("one thing, one thief", x.careers(1, 1), 2);
        Due.due("one thing, eight thieves", x.careers(8, 1), 2);
        Due.due("all, one", x.careers(1, 4095), 24);
        Due.due("all, seven", x.careers(7, 4095), 4);
        Due.due("all, eight", x.careers(8, 4095), 3);
        Due.due("three, two", x.careers(2, 7), 3);
        x.thing(0, 0, 1, 5, 1);
        x.thing(1, 1, 2, 5, 1);
        x.thing(2, 2, 9, 5, 1);
        Due.due("once before", x.careers(8, 1), 1);
        Due.due("twice before", x.careers(8, 2), 0);
        Due.due("nine times before", x.careers(8, 4), 0);
        Due.due("all these", x.careers(1, 7), 1);
        Due.due("and one more", x.careers(1, 15), 3);
        Due.due("and one more, two thieves", x.careers(2, 15), 2);
        Due.text(x, "BaCa");
        Due.due("the pad is no matter", x.careers(1, 1), 1);
    }

    private static void againstSearch() {
        Map<Integer, Integer> known = new HashMap<>();
        for (int n = 1; n <= 8; n++) {
            known.clear();
            for (int twice = 0; twice <= 6; twice++) {
                for (int once = 0; once <= 6; once++) {
                    TwiceStolen x = new TwiceStolen();
                    for (int thing = 0; thing < once; thing++) {
                        x.thing(11 - thing, 0, 1, 5, 1);
                    }
                    int set = (1 << twice) - 1 | ((1 << once) - 1) << 12 - once;
                    Due.due("careers " + n + " " + twice + " " + once, x.careers(n, set), nights(n, twice, once, known));
                }
            }
        }
    }

    // each night so many of those that want two takings and of those that want one
    private static int nights(int n, int twice, int once, Map<Integer, Integer> known) {
        if (twice + once == 0) {
            return 0;
        }
        Integer before = known.get(100 * twice + once);
        if (before != null) {
            return before;
        }
        int least = Integer.MAX_VALUE;
        for (int a = 0; a <= Math.min(n, twice); a++) {
            for (int b = 0; b <= Math.min(n - a, once); b++) {
                if (a + b > 0) {
                    least = Math.min(least, 1 + nights(n, twice - a, once + a - b, known));
                }
            }
        }
        known.put(100 * twice + once, least);
        return least;
    }

    private static void refusals() {
        TwiceStolen x = new TwiceStolen();
        Due.due("n 0", x.careers(0, 1), -2);
        Due.due("n 9", x.careers(9, 1), -2);
        Due.due("n -1", x.careers(-1, 1), -2);
        Due.due("set -1", x.careers(1, -1), -2);
        Due.due("set 4096", x.careers(1, 4096), -2);
        Due.due("all wrong", x.careers(Integer.MIN_VALUE, Integer.MAX_VALUE), -2);
    }
}
