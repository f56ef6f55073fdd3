/** Promises 25 to 27: image, restore, told. */
public final class ImageTest {
    public static void main(String[] args) {
        images();
        sights();
        notThePad();
        twoImages();
        told();
        refusals();
        Due.end();
    }

    private static void change(TwiceStolen x, int by) {
        x.thing(by, 7 - by, 3 + by, 50 + by, 2 + by);
        x.one(by, 500 + by, 0);
        x.brothers(by, by + 1, true);
        x.ahead(by, by + 1);
        Due.text(x, "H#." + (char) ('A' + by) + "#");
        Due.due("three acts", x.done(), 3);
    }

    private static void images() {
        TwiceStolen x = new TwiceStolen();
        change(x, 0);
        String before = Due.state(x);
        Due.due("kept", x.image(1), 1);
        Due.same("to keep changes nothing", Due.state(x), before);
        change(x, 1);
        change(x, 2);
        Due.due("changed", Due.state(x).equals(before) ? 1 : 0, 0);
        Due.due("restored", x.restore(1), 1);
        Due.same("restored", Due.state(x), before);
        change(x, 3);
        Due.due("restored again", x.restore(1), 1);
        Due.same("restored again", Due.state(x), before);
        Due.due("what is kept stays apart", x.told(3), 1);
        x.forget();
        x.restore(1);
        Due.due("sights are kept", x.told(3), 1);
        Due.due("which they were", x.fits(-1), 60);
        Due.due("brothers", x.brothers(6, 7, true), 2);
        x.restore(1);
        Due.due("brothers are kept", x.told(26), 0);
        Due.due("night is kept", x.told(2), 1);
        change(x, 1);
        String later = Due.state(x);
        x.image(1);
        change(x, 2);
        x.restore(1);
        Due.same("kept anew", Due.state(x), later);
    }

    private static void sights() {
        TwiceStolen x = new TwiceStolen();
        x.ahead(4, 3);
        x.ahead(2, 0);
        String before = Due.state(x);
        x.image(0);
        x.forget();
        x.ahead(1, 2);
        x.ahead(0, 4);
        Due.due("other sights", x.fits(0), 1234);
        x.restore(0);
        Due.due("the first row of those kept", x.fits(0), 12043);
        Due.same("sights as they were", Due.state(x), before);
        x.ahead(0, 1);
        x.image(1);
        x.restore(0);
        Due.same("sights told later are none of it", Due.state(x), before);
        x.restore(1);
        Due.due("sights of the other", x.told(3), 3);
    }

    private static void notThePad() {
        TwiceStolen x = Due.text(new TwiceStolen(), "Ba");
        x.image(0);
        x.say('C');
        x.say('a');
        Due.due("restored", x.restore(0), 1);
        Due.due("the pad is as it is", x.told(0), 4);
        Due.due("the pad is as it is", x.behind(0, 0), 2);
        x.wipe();
        x.restore(0);
        Due.due("the pad is wiped", x.told(0), 0);
    }

    private static void twoImages() {
        TwiceStolen x = new TwiceStolen();
        String first = Due.state(x);
        x.image(0);
        Due.due("the other was not", x.restore(1), -3);
        change(x, 1);
        String second = Due.state(x);
        x.image(1);
        x.restore(0);
        Due.same("the first", Due.state(x), first);
        x.restore(1);
        Due.same("the second", Due.state(x), second);
        TwiceStolen other = new TwiceStolen();
        Due.due("another object's images", other.restore(0), -3);
    }

    private static void told() {
        TwiceStolen x = new TwiceStolen();
        x.thing(0, 1, 2, 3, 4);
        x.thing(11, 5, 6, 7, 8);
        x.one(0, 123, 1);
        x.one(7, 456, 0);
        x.brothers(0, 7, true);
        x.ahead(0, 1);
        x.ahead(1, 2);
        Due.text(x, ".Ba");
        Due.due("signs", x.told(0), 3);
        Due.due("doors", x.told(1), 127);
        Due.due("night", x.told(2), 0);
        Due.due("sights", x.told(3), 2);
        Due.due("coin", x.told(10), 123);
        Due.due("coin", x.told(17), 456);
        Due.due("brothers", x.told(20), 128);
        Due.due("brothers", x.told(27), 1);
        for (int i = 0; i < 4; i++) {
            Due.due("thing 0", x.told(100 + i), 1 + i);
            Due.due("thing 11", x.told(210 + i), 5 + i);
        }
        for (int what = -5; what < 300; what++) {
            boolean is = what >= 0 && what <= 3 || what >= 10 && what <= 17 || what >= 20 && what <= 27
                    || what >= 100 && what < 220 && what % 10 <= 3;
            Due.due("told " + what + " is told", x.told(what) == -2 ? 0 : 1, is ? 1 : 0);
        }
        Due.due("told least", x.told(Integer.MIN_VALUE), -2);
        Due.due("told most", x.told(Integer.MAX_VALUE), -2);
    }

    private static void refusals() {
        TwiceStolen x = new TwiceStolen();
        for (int k : new int[] {-1, 2, Integer.MIN_VALUE, Integer.MAX_VALUE}) {
            Due.due("image " + k, x.image(k), -2);
            Due.due("restore " + k, x.restore(k), -2);
        }
        Due.due("none was kept", x.restore(0), -3);
        Due.due("none was kept", x.restore(1), -3);
    }
}
