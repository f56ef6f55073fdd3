/** Promises 1 to 4: a new object, thing, one, brothers. */
public final class ThingsTest {
    public static void main(String[] args) {
        newObject();
        things();
        ones();
        brothers();
        Due.end();
    }

    private static void newObject() {
        TwiceStolen x = new TwiceStolen();
        for (int thing = 0; thing < 12; thing++) {
            Due.due("new holder of " + thing, x.told(100 + 10 * thing), thing % 8);
            Due.due("new taken of " + thing, x.told(101 + 10 * thing), 0);
            Due.due("new worth of " + thing, x.told(102 + 10 * thing), 5);
            Due.due("new weight of " + thing, x.told(103 + 10 * thing), 1);
        }
        for (int one = 0; one < 8; one++) {
            Due.due("new coin of " + one, x.told(10 + one), 100);
            Due.due("new brothers of " + one, x.told(20 + one), 0);
        }
        Due.due("new signs", x.told(0), 0);
        Due.due("new doors", x.told(1), 255);
        Due.due("new night", x.told(2), 0);
        Due.due("new sights", x.told(3), 0);
        Due.due("new fault", x.fault(), -6);
        Due.due("new image", x.restore(0), -3);
        Due.due("new image", x.restore(1), -3);
    }

    private static void things() {
        TwiceStolen x = new TwiceStolen();
        Due.due("thing 11 was with", x.thing(11, 0, 9, 99, 9), 3);
        Due.due("told holder", x.told(210), 0);
        Due.due("told taken", x.told(211), 9);
        Due.due("told worth", x.told(212), 99);
        Due.due("told weight", x.told(213), 9);
        Due.due("thing 11 again", x.thing(11, 7, 0, 0, 1), 0);
        Due.due("told holder", x.told(210), 7);
        Due.due("told taken", x.told(211), 0);
        Due.due("told worth", x.told(212), 0);
        Due.due("told weight", x.told(213), 1);
        Due.due("thing 10 is as it was", x.told(200), 2);
        String before = Due.state(x);
        int[] none = {-1, 12, 100, Integer.MIN_VALUE, Integer.MAX_VALUE};
        for (int thing : none) {
            Due.due("no such thing " + thing, x.thing(thing, 0, 0, 0, 1), -1);
            Due.due("no such thing, and all else wrong", x.thing(thing, 9, 10, 100, 0), -1);
        }
        int[] nobody = {-1, 8, Integer.MIN_VALUE, Integer.MAX_VALUE};
        for (int one : nobody) {
            Due.due("no such one " + one, x.thing(0, one, 0, 0, 1), -1);
            Due.due("no such one, worth outside", x.thing(0, one, 0, 100, 1), -1);
        }
        Due.due("taken -1", x.thing(0, 1, -1, 0, 1), -2);
        Due.due("taken 10", x.thing(0, 1, 10, 0, 1), -2);
        Due.due("worth -1", x.thing(0, 1, 0, -1, 1), -2);
        Due.due("worth 100", x.thing(0, 1, 0, 100, 1), -2);
        Due.due("weight 0", x.thing(0, 1, 0, 0, 0), -2);
        Due.due("weight 10", x.thing(0, 1, 0, 0, 10), -2);
        Due.same("refused things", Due.state(x), before);
    }

    private static void ones() {
        TwiceStolen x = new TwiceStolen();
        Due.due("one had", x.one(0, 0, 0), 100);
        Due.due("told coin", x.told(10), 0);
        Due.due("told doors", x.told(1), 254);
        Due.due("one had", x.one(7, 9999, 0), 100);
        Due.due("told coin", x.told(17), 9999);
        Due.due("told doors", x.told(1), 126);
        Due.due("one had", x.one(7, 1, 1), 9999);
        Due.due("told doors", x.told(1), 254);
        Due.due("one had", x.one(7, 2, 1), 1);
        Due.due("a door ajar stays so", x.told(1), 254);
        Due.due("one had", x.one(0, 2, 0), 0);
        Due.due("a door shut stays so", x.told(1), 254);
        String before = Due.state(x);
        Due.due("one -1", x.one(-1, 0, 0), -1);
        Due.due("one 8", x.one(8, 0, 0), -1);
        Due.due("one 8, all else wrong", x.one(8, -1, 2), -1);
        Due.due("coin -1", x.one(0, -1, 0), -2);
        Due.due("coin 10000", x.one(0, 10000, 0), -2);
        Due.due("door -1", x.one(0, 0, -1), -2);
        Due.due("door 2", x.one(0, 0, 2), -2);
        Due.same("refused ones", Due.state(x), before);
    }

    private static void brothers() {
        TwiceStolen x = new TwiceStolen();
        Due.due("not yet", x.brothers(2, 5, false), 0);
        Due.due("two", x.brothers(2, 5, true), 1);
        Due.due("the same two", x.brothers(5, 2, true), 1);
        Due.due("brothers of 2", x.told(22), 32);
        Due.due("brothers of 5", x.told(25), 4);
        Due.due("two more", x.brothers(2, 7, true), 2);
        Due.due("brothers of 2", x.told(22), 160);
        Due.due("no brother's brother", x.told(25), 4);
        Due.due("not any more", x.brothers(5, 2, false), 1);
        Due.due("brothers of 2", x.told(22), 128);
        Due.due("brothers of 5", x.told(25), 0);
        String before = Due.state(x);
        Due.due("both one", x.brothers(3, 3, true), -1);
        Due.due("both one, not", x.brothers(3, 3, false), -1);
        Due.due("one -1", x.brothers(-1, 3, true), -1);
        Due.due("one 8", x.brothers(8, 3, true), -1);
        Due.due("other -1", x.brothers(3, -1, true), -1);
        Due.due("other 8", x.brothers(3, 8, true), -1);
        Due.same("refused brothers", Due.state(x), before);
        int pairs = 0;
        TwiceStolen all = new TwiceStolen();
        for (int a = 0; a < 8; a++) {
            for (int b = 0; b < a; b++) {
                pairs++;
                Due.due("pairs", all.brothers(a, b, true), pairs);
            }
        }
        Due.due("all are 28", pairs, 28);
        Due.due("brothers of 0", all.told(20), 254);
    }
}
