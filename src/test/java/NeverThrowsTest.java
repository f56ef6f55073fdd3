import java.util.Random;

/** Any arguments in any state: each call answers, and refused ones change nothing. */
public final class NeverThrowsTest {
    private static final int[] ODD = {Integer.MIN_VALUE, Integer.MIN_VALUE + 1, -1000000000, -100, -7, -6, -2, -1, 0, 1,
        2, 3, 4, 5, 7, 8, 9, 10, 11, 12, 59, 60, 64, 98, 99, 100, 4095, 4096, 9999, 10000, 65537, 77777777, 99999999,
        999999999, 1000000000, Integer.MAX_VALUE - 1, Integer.MAX_VALUE};

    public static void main(String[] args) {
        Random random = new Random(1);
        for (int run = 0; run < 2000; run++) {
            TwiceStolen x = new TwiceStolen();
            for (int i = 0; i < 400; i++) {
                if (random.nextInt(40) == 0) {
                    compare(x, random);
                } else {
                    call(x, random);
                }
            }
        }
        Due.end();
    }

    private static void compare(TwiceStolen x, Random random) {
        String before = x.told(0) + " " + Due.state(x);
        if (call(x, random) < 0) {
            Due.same("a refused call", x.told(0) + " " + Due.state(x), before);
        }
    }

    private static int n(Random random) {
        return random.nextBoolean() ? ODD[random.nextInt(ODD.length)] : random.nextInt(14) - 1;
    }

    private static long call(TwiceStolen x, Random r) {
        switch (r.nextInt(27)) {
            case 0: return x.thing(n(r), n(r), n(r), n(r), n(r));
            case 1: return x.one(n(r), n(r), n(r));
            case 2: return x.brothers(n(r), n(r), r.nextBoolean());
            case 3: return x.say(n(r));
            case 4: return x.say("ABCDEFGHabcdefghijkl$*#.".charAt(r.nextInt(24)));
            case 5: return r.nextInt(9) == 0 ? x.wipe() : x.say('.');
            case 6: return x.fault();
            case 7: return x.judge(n(r));
            case 8: return x.behind(n(r), n(r));
            case 9: return x.purse(n(r), n(r));
            case 10: return x.sold(n(r));
            case 11: return x.done();
            case 12: return x.sack(n(r), n(r), n(r));
            case 13: return x.careers(n(r), n(r));
            case 14: return x.ring(n(r), n(r), n(r), n(r));
            case 15: return x.stop(n(r), n(r), n(r), n(r));
            case 16: return x.sells(n(r), n(r), n(r));
            case 17: return x.ahead(n(r), n(r));
            case 18: return r.nextInt(9) == 0 ? x.forget() : x.ahead(r.nextInt(5), r.nextInt(5));
            case 19: return x.fits(n(r));
            case 20: return x.ask(n(r));
            case 21: return x.shelf(n(r), n(r), n(r));
            case 22: return x.doors(n(r), n(r), n(r), n(r));
            case 23: return x.year(n(r), n(r), n(r));
            case 24: return x.image(n(r));
            case 25: return x.restore(n(r));
            default: return x.told(n(r));
        }
    }
}
