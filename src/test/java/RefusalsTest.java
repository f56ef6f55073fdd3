import java.util.function.ToLongFunction;

/**
 * Each refusal of each call, in many states: what it answers, which refusal comes first where two fit,
 * and that all stays as it was, beside a twin that the call was not made on.
 */
public final class RefusalsTest {
    private static final int UNKNOWN = -1;
    private static final int OUTSIDE = -2;
    private static final int STATE = -3;
    private static final int FULL = -4;
    private static final int NO = -5;
    private static final long GONE_OUTSIDE = -1000000000000000000L + OUTSIDE;

    private static final int LEAST = Integer.MIN_VALUE;
    private static final int MOST = Integer.MAX_VALUE;
    private static final String[] EVERYWHERE = States.all();

    public static void main(String[] args) {
        things();
        ones();
        brothers();
        signs();
        nightsUnknownOrOutside();
        nightsWithAFault();
        nightsThatCanNotBe();
        sacks();
        careers();
        rings();
        stops();
        sights();
        shelves();
        doors();
        fractions();
        years();
        images();
        told();
        wrongInTwoWays();
        Due.end();
    }

    /** The call on one object of each state; its twin of the same state is told whole beside it. */
    private static void refused(String call, long want, String[] states, ToLongFunction<TwiceStolen> calling) {
        for (String state : states) {
            TwiceStolen x = States.make(state);
            Due.due(call + " in state '" + state + "'", calling.applyAsLong(x), want);
            Due.same(call + " in state '" + state + "'", States.whole(x), States.whole(States.make(state)));
        }
    }

    private static void refused(String call, long want, ToLongFunction<TwiceStolen> calling) {
        refused(call, want, EVERYWHERE, calling);
    }

    private static void things() {
        Due.sentence("A THING: with whom, how often TAKEN, WORTH, WEIGHT: with whom it was. UNKNOWN: both; OUTSIDE.");
        for (int none : new int[] {-1, 12, LEAST, MOST}) {
            refused("thing " + none, UNKNOWN, x -> x.thing(none, 1, 1, 1, 1));
            refused("thing " + none + ", and a number outside", UNKNOWN, x -> x.thing(none, 1, 10, 100, 10));
        }
        for (int nobody : new int[] {-1, 8, LEAST, MOST}) {
            refused("one " + nobody, UNKNOWN, x -> x.thing(3, nobody, 1, 1, 1));
            refused("one " + nobody + ", and TAKEN outside", UNKNOWN, x -> x.thing(3, nobody, -1, 1, 1));
            refused("one " + nobody + ", and WORTH outside", UNKNOWN, x -> x.thing(3, nobody, 1, -1, 1));
            refused("one " + nobody + ", and WEIGHT outside", UNKNOWN, x -> x.thing(3, nobody, 1, 1, 0));
        }
        for (int taken : new int[] {-1, 10, LEAST, MOST}) {
            refused("TAKEN " + taken, OUTSIDE, x -> x.thing(3, 1, taken, 1, 1));
        }
        for (int worth : new int[] {-1, 100, LEAST, MOST}) {
            refused("WORTH " + worth, OUTSIDE, x -> x.thing(3, 1, 1, worth, 1));
        }
        for (int weight : new int[] {0, 10, -1, LEAST, MOST}) {
            refused("WEIGHT " + weight, OUTSIDE, x -> x.thing(3, 1, 1, 1, weight));
        }
    }

    private static void ones() {
        Due.sentence("COIN of a ONE, his DOOR (1 ajar, 0 shut): which COIN he had. UNKNOWN; OUTSIDE.");
        for (int nobody : new int[] {-1, 8, LEAST, MOST}) {
            refused("one " + nobody, UNKNOWN, x -> x.one(nobody, 1, 0));
            refused("one " + nobody + ", and COIN outside", UNKNOWN, x -> x.one(nobody, 10000, 0));
            refused("one " + nobody + ", and DOOR outside", UNKNOWN, x -> x.one(nobody, 1, 2));
        }
        for (int coin : new int[] {-1, 10000, LEAST, MOST}) {
            refused("COIN " + coin, OUTSIDE, x -> x.one(4, coin, 0));
        }
        for (int door : new int[] {-1, 2, LEAST, MOST}) {
            refused("DOOR " + door, OUTSIDE, x -> x.one(4, 1, door));
        }
    }

    private static void brothers() {
        Due.sentence("Two are BROTHERS (is true), or not: how many two there are. UNKNOWN: both, both one.");
        for (boolean is : new boolean[] {true, false}) {
            for (int nobody : new int[] {-1, 8, LEAST, MOST}) {
                refused("one " + nobody, UNKNOWN, x -> x.brothers(nobody, 6, is));
                refused("other " + nobody, UNKNOWN, x -> x.brothers(2, nobody, is));
                refused("both " + nobody, UNKNOWN, x -> x.brothers(nobody, nobody, is));
            }
            for (int one = 0; one < 8; one++) {
                int both = one;
                refused("both " + one, UNKNOWN, x -> x.brothers(both, both, is));
            }
        }
    }

    private static void signs() {
        Due.sentence("A sign more: how many. OUTSIDE; FULL.");
        // in the states of a full pad both fit: OUTSIDE comes first
        for (int sign : new int[] {32, 127, 0, -1, 10, 128, 256 + 'A', 65536 + '.', LEAST, MOST}) {
            refused("sign " + sign, OUTSIDE, x -> x.say(sign));
        }
        String[] full = {"full pad", "full pad, unfinished", "full pad, fault", "full pad, cannot"};
        for (int sign : new int[] {33, '.', 'A', 'a', '!', 126}) {
            refused("sign " + sign, FULL, full, x -> x.say(sign));
        }
    }

    private static void nightsUnknownOrOutside() {
        // the states have faults and acts that can not be among them: NO and STATE come behind
        for (int what : new int[] {-1, 3, LEAST, MOST}) {
            Due.sentence("OUTSIDE; NO: there is a FAULT; STATE (2): some ACT can not be.");
            refused("judge " + what, OUTSIDE, x -> x.judge(what));
            Due.sentence("UNKNOWN; OUTSIDE; NO, STATE, as of judge(2).");
            refused("behind, " + what, OUTSIDE, x -> x.behind(0, what));
            refused("behind none, " + what, UNKNOWN, x -> x.behind(12, what));
            Due.sentence("UNKNOWN; OUTSIDE; NO, STATE, likewise.");
            refused("purse, " + what, OUTSIDE, x -> x.purse(0, what));
            refused("purse of none, " + what, UNKNOWN, x -> x.purse(8, what));
            Due.sentence("which (1; NONE), what it came to (2). OUTSIDE; NO, STATE, likewise.");
            refused("sold " + what, OUTSIDE, x -> x.sold(what));
        }
        for (int what = 0; what < 3; what++) {
            int asked = what;
            Due.sentence("UNKNOWN; OUTSIDE; NO, STATE, as of judge(2).");
            for (int none : new int[] {-1, 12, LEAST, MOST}) {
                refused("behind " + none, UNKNOWN, x -> x.behind(none, asked));
            }
            Due.sentence("UNKNOWN; OUTSIDE; NO, STATE, likewise.");
            for (int nobody : new int[] {-1, 8, LEAST, MOST}) {
                refused("purse " + nobody, UNKNOWN, x -> x.purse(nobody, asked));
            }
        }
    }

    private static void nightsWithAFault() {
        // "cannot, and fault" is both: NO comes ahead of STATE
        for (int what = 0; what < 3; what++) {
            int asked = what;
            Due.sentence("OUTSIDE; NO: there is a FAULT; STATE (2): some ACT can not be.");
            refused("judge " + what, NO, States.FAULT, x -> x.judge(asked));
            Due.sentence("UNKNOWN; OUTSIDE; NO, STATE, as of judge(2).");
            refused("behind 0, " + what, NO, States.FAULT, x -> x.behind(0, asked));
            refused("behind 11, " + what, NO, States.FAULT, x -> x.behind(11, asked));
            Due.sentence("UNKNOWN; OUTSIDE; NO, STATE, likewise.");
            refused("purse 0, " + what, NO, States.FAULT, x -> x.purse(0, asked));
            refused("purse 7, " + what, NO, States.FAULT, x -> x.purse(7, asked));
            Due.sentence("which (1; NONE), what it came to (2). OUTSIDE; NO, STATE, likewise.");
            refused("sold " + what, NO, States.FAULT, x -> x.sold(asked));
        }
        Due.sentence("NIGHTS are DONE (the PAD is empty then): ACTS. NO, STATE, likewise.");
        refused("done", NO, States.FAULT, x -> x.done());
    }

    private static void nightsThatCanNotBe() {
        for (int what = 0; what < 3; what++) {
            int asked = what;
            Due.sentence("UNKNOWN; OUTSIDE; NO, STATE, as of judge(2).");
            refused("behind 0, " + what, STATE, States.CANNOT, x -> x.behind(0, asked));
            refused("behind 11, " + what, STATE, States.CANNOT, x -> x.behind(11, asked));
            Due.sentence("UNKNOWN; OUTSIDE; NO, STATE, likewise.");
            refused("purse 0, " + what, STATE, States.CANNOT, x -> x.purse(0, asked));
            refused("purse 7, " + what, STATE, States.CANNOT, x -> x.purse(7, asked));
            Due.sentence("which (1; NONE), what it came to (2). OUTSIDE; NO, STATE, likewise.");
            refused("sold " + what, STATE, States.CANNOT, x -> x.sold(asked));
        }
        Due.sentence("OUTSIDE; NO: there is a FAULT; STATE (2): some ACT can not be.");
        refused("judge 2", STATE, States.CANNOT, x -> x.judge(2));
        int[] act = {1, 2, 58, 1};
        int[] why = {1, 1, 1, 6};
        for (int i = 0; i < act.length; i++) {
            String[] state = {States.CANNOT[i]};
            refused("judge 0 is not refused", act[i], state, x -> x.judge(0));
            refused("judge 1 is not refused", why[i], state, x -> x.judge(1));
        }
        Due.sentence("NIGHTS are DONE (the PAD is empty then): ACTS. NO, STATE, likewise.");
        refused("done", STATE, States.CANNOT, x -> x.done());
    }

    private static void sacks() {
        Due.sentence("SACK: how much (what = 0), which (1). UNKNOWN; OUTSIDE.");
        for (int nobody : new int[] {-1, 8, LEAST, MOST}) {
            refused("one " + nobody, UNKNOWN, x -> x.sack(nobody, 9, 0));
            refused("one " + nobody + ", and c outside", UNKNOWN, x -> x.sack(nobody, 100, 0));
            refused("one " + nobody + ", and what outside", UNKNOWN, x -> x.sack(nobody, 9, 2));
        }
        for (int c : new int[] {-1, 100, LEAST, MOST}) {
            refused("c " + c, OUTSIDE, x -> x.sack(0, c, 0));
            refused("c " + c, OUTSIDE, x -> x.sack(7, c, 1));
        }
        for (int what : new int[] {-1, 2, LEAST, MOST}) {
            refused("what " + what, OUTSIDE, x -> x.sack(0, 9, what));
        }
    }

    private static void careers() {
        Due.sentence("CAREERS. OUTSIDE: n, the set 0 to 4095.");
        for (int n : new int[] {0, 9, -1, LEAST, MOST}) {
            refused("n " + n, OUTSIDE, x -> x.careers(n, 1));
            refused("n " + n + " for nothing", OUTSIDE, x -> x.careers(n, 0));
        }
        for (int set : new int[] {-1, 4096, LEAST, MOST}) {
            refused("set " + set, OUTSIDE, x -> x.careers(1, set));
        }
    }

    private static void rings() {
        Due.sentence("UNKNOWN; OUTSIDE: a row that is none, m, what.");
        for (int nobody : new int[] {-1, 8, LEAST, MOST}) {
            refused("one " + nobody, UNKNOWN, x -> x.ring(0, nobody, 0, 0));
            refused("one " + nobody + ", and a row that is none", UNKNOWN, x -> x.ring(8, nobody, 0, 0));
            refused("one " + nobody + ", and m outside", UNKNOWN, x -> x.ring(0, nobody, -1, 0));
            refused("one " + nobody + ", and what outside", UNKNOWN, x -> x.ring(0, nobody, 0, 3));
        }
        for (int what = 0; what < 3; what++) {
            int asked = what;
            for (int row : new int[] {-1, 8, 77777778, 80000000, 100000000, LEAST, MOST}) {
                refused("row " + row, OUTSIDE, x -> x.ring(row, 0, 0, asked));
            }
            for (int m : new int[] {-1, 1000000000, LEAST, MOST}) {
                refused("m " + m, OUTSIDE, x -> x.ring(0, 0, m, asked));
            }
        }
        for (int what : new int[] {-1, 3, LEAST, MOST}) {
            refused("what " + what, OUTSIDE, x -> x.ring(0, 0, 0, what));
        }
    }

    private static void stops() {
        int[][] outside = {{5, 0, 3}, {5, 10, 3}, {5, -1, 3}, {5, LEAST, 3}, {5, MOST, 3}, {10, 1, 3}, {-1, 1, 3},
            {1000000000, 9, 3}, {LEAST, 9, 3}, {MOST, 9, 3}, {5, 1, -1}, {5, 1, 11}, {5, 1, LEAST}, {5, 1, MOST}};
        for (int[] o : outside) {
            String call = "(" + o[0] + ", " + o[1] + ", " + o[2] + ")";
            Due.sentence("STOP: the mean, a fraction. OUTSIDE: n, a row of more digits, t, part.");
            refused("stop" + call, GONE_OUTSIDE, x -> x.stop(o[0], o[1], o[2], 0));
            refused("stop" + call, GONE_OUTSIDE, x -> x.stop(o[0], o[1], o[2], 1));
            Due.sentence("STOP: at which taking. OUTSIDE.");
            refused("sells" + call, OUTSIDE, x -> x.sells(o[0], o[1], o[2]));
        }
        Due.sentence("STOP: the mean, a fraction. OUTSIDE: n, a row of more digits, t, part.");
        for (int part : new int[] {-1, 2, LEAST, MOST}) {
            refused("part " + part, GONE_OUTSIDE, x -> x.stop(5, 1, 3, part));
        }
    }

    private static void sights() {
        Due.sentence("A SIGHT more: how many. OUTSIDE: a, b, both one; FULL.");
        // "full sights" is among the states: OUTSIDE comes ahead of FULL
        for (int none : new int[] {-1, 5, LEAST, MOST}) {
            refused("a " + none, OUTSIDE, x -> x.ahead(none, 0));
            refused("b " + none, OUTSIDE, x -> x.ahead(0, none));
            refused("both " + none, OUTSIDE, x -> x.ahead(none, none));
        }
        String[] full = {"full sights"};
        for (int a = 0; a < 5; a++) {
            int hand = a;
            refused("both " + a, OUTSIDE, x -> x.ahead(hand, hand));
            refused("a ninth", FULL, full, x -> x.ahead(hand, (hand + 1) % 5));
        }
        Due.sentence("ASK: which two (what = 0), how many (1); NONE: nothing fits. OUTSIDE.");
        // "contradiction" is among the states: OUTSIDE, not NONE
        for (int what : new int[] {-1, 2, LEAST, MOST}) {
            refused("ask " + what, OUTSIDE, x -> x.ask(what));
        }
    }

    private static void shelves() {
        Due.sentence("SHELF: whether (what = 0), what (1; NONE). OUTSIDE.");
        int[][] outside = {{0, 1, 0}, {6, 1, 0}, {-1, 1, 0}, {LEAST, 1, 0}, {MOST, 1, 0}, {1, 0, 0}, {1, 6, 0},
            {1, -1, 0}, {1, LEAST, 0}, {1, MOST, 0}, {1, 1, -1}, {1, 1, 2}, {1, 1, LEAST}, {1, 1, MOST}};
        for (int[] o : outside) {
            refused("shelf(" + o[0] + ", " + o[1] + ", " + o[2] + ")", OUTSIDE, x -> x.shelf(o[0], o[1], o[2]));
        }
    }

    private static void doors() {
        Due.sentence("DOORS: no two (what = 0), each (1). OUTSIDE.");
        int[][] outside = {{-1, 1, 0, 0}, {13, 1, 0, 0}, {LEAST, 1, 0, 0}, {MOST, 1, 0, 0}, {1, 0, 0, 0},
            {1, 11, 0, 0}, {1, -1, 0, 0}, {1, LEAST, 0, 0}, {1, MOST, 0, 0}, {1, 1, -1, 0}, {1, 1, 2, 0},
            {1, 1, LEAST, 0}, {1, 1, MOST, 0}, {1, 1, 0, -1}, {1, 1, 0, 2}, {1, 1, 0, LEAST}, {1, 1, 0, MOST}};
        for (int[] o : outside) {
            String call = "doors(" + o[0] + ", " + o[1] + ", " + o[2] + ", " + o[3] + ")";
            refused(call, GONE_OUTSIDE, x -> x.doors(o[0], o[1], o[2], o[3]));
        }
    }

    private static void fractions() {
        Due.sentence("refused with GONE and the refusal.");
        Due.due("GONE", TwiceStolen.GONE, -1000000000000000000L);
        for (int part = 0; part <= 1; part++) {
            int told = part;
            refused("stop", TwiceStolen.GONE + TwiceStolen.OUTSIDE, x -> x.stop(10, 1, 0, told));
            refused("doors", TwiceStolen.GONE + TwiceStolen.OUTSIDE, x -> x.doors(13, 10, 1, told));
        }
        Due.sentence("Fractions are told in lowest terms by part: 0 the upper, 1 the lower number;");
        for (int part : new int[] {-1, 2, LEAST, MOST}) {
            refused("stop", GONE_OUTSIDE, x -> x.stop(12, 2, 4, part));
            refused("doors", GONE_OUTSIDE, x -> x.doors(12, 10, 1, part));
        }
    }

    private static void years() {
        Due.sentence("A YEAR: how many (what = 0), COIN (1), THINGS (2). OUTSIDE.");
        int[][] outside = {{-1, 1, 0}, {10000, 1, 0}, {LEAST, 1, 0}, {MOST, 1, 0}, {5, 0, 0}, {5, 100, 0}, {5, -1, 0},
            {5, LEAST, 0}, {5, MOST, 0}, {5, 1, -1}, {5, 1, 3}, {5, 1, LEAST}, {5, 1, MOST}};
        for (int[] o : outside) {
            refused("year(" + o[0] + ", " + o[1] + ", " + o[2] + ")", OUTSIDE, x -> x.year(o[0], o[1], o[2]));
        }
    }

    private static void images() {
        for (int k : new int[] {-1, 2, 32, 33, LEAST, MOST}) {
            Due.sentence("All but the PAD is kept in an IMAGE (0, 1): 1. OUTSIDE.");
            refused("image " + k, OUTSIDE, x -> x.image(k));
            Due.sentence("It is as it was when it was kept: 1. OUTSIDE; STATE: it was not.");
            // where none was kept both fit: OUTSIDE comes first
            refused("restore " + k, OUTSIDE, x -> x.restore(k));
        }
        String[] noneKept = {"new", "rich", "acts", "full pad", "contradiction", "fault", "cannot", "night 99"};
        refused("restore 0", STATE, noneKept, x -> x.restore(0));
        refused("restore 1", STATE, noneKept, x -> x.restore(1));
    }

    private static void told() {
        Due.sentence("0 who has it, 1 TAKEN, 2 WORTH, 3 WEIGHT. OUTSIDE.");
        for (int what : new int[] {-1, 4, 9, 18, 19, 28, 99, 104, 109, 114, 214, 219, 220, LEAST, MOST}) {
            refused("told " + what, OUTSIDE, x -> x.told(what));
        }
    }

    private static void wrongInTwoWays() {
        Due.sentence("Calls that are refused answer, the first of these that fits: UNKNOWN -1");
        refused("thing: both unknown", UNKNOWN, x -> x.thing(12, 8, 10, 100, 10));
        refused("one: all wrong", UNKNOWN, x -> x.one(8, -1, -1));
        refused("sack: all wrong", UNKNOWN, x -> x.sack(8, -1, -1));
        refused("ring: all wrong", UNKNOWN, x -> x.ring(-1, 8, -1, -1));
        refused("careers: all wrong", OUTSIDE, x -> x.careers(0, -1));
        refused("stop: all wrong", GONE_OUTSIDE, x -> x.stop(-1, 0, -1, -1));
        refused("sells: all wrong", OUTSIDE, x -> x.sells(-1, 0, -1));
        refused("shelf: all wrong", OUTSIDE, x -> x.shelf(0, 0, -1));
        refused("doors: all wrong", GONE_OUTSIDE, x -> x.doors(-1, 0, -1, -1));
        refused("year: all wrong", OUTSIDE, x -> x.year(-1, 0, -1));
    }
}
