/** Promise 24: year. */
public final class YearTest {
    public static void main(String[] args) {
        ordinary();
        everySeed();
        fromAllAsItIs();
        refusals();
        Due.end();
    }

    // seed 0: x is 74, so ONE 2 by 1 takes THING 1
    private static void ordinary() {
        TwiceStolen x = new TwiceStolen();
        Due.due("one act", x.year(0, 1, 0), 0);
        Due.due("one act", x.year(0, 1, 1), 100);
        Due.due("one act", x.year(0, 1, 2), 2);
        x.thing(1, 0, 1, 5, 1);
        Due.due("taken once more", x.year(0, 1, 0), 1);
        Due.due("taken from 0", x.year(0, 1, 2), 2);
        x.brothers(0, 2, true);
        Due.due("from a brother", x.year(0, 1, 0), 0);
        Due.due("from a brother", x.year(0, 1, 2), 2);
        x.brothers(0, 2, false);
        x.one(0, 100, 0);
        Due.due("his door is shut", x.year(0, 1, 0), 0);
        Due.due("his door is shut", x.year(0, 1, 2), 3);
    }

    private static void everySeed() {
        PlainModel plain = new PlainModel();
        TwiceStolen x = new TwiceStolen();
        String before = Due.state(x);
        for (int seed = 0; seed < 10000; seed += 7) {
            compare(x, plain, seed, 1 + seed % 99);
        }
        compare(x, plain, 9999, 99);
        Due.same("nothing is done in fact", Due.state(x), before);
    }

    private static void compare(TwiceStolen x, PlainModel plain, int seed, int m) {
        for (int what = 0; what < 3; what++) {
            Due.due("year(" + seed + ", " + m + ", " + what + ")", x.year(seed, m, what), plain.year(seed, m, what));
        }
    }

    private static void fromAllAsItIs() {
        int drawn = 23;
        for (int run = 0; run < 300; run++) {
            TwiceStolen x = new TwiceStolen();
            PlainModel plain = new PlainModel();
            for (int i = 0; i < 12; i++) {
                drawn = (75 * drawn + 74) % 65537;
                PlainModel.Thing thing = plain.now.things.get(i);
                thing.with = drawn % 8;
                thing.taken = drawn / 8 % 10;
                thing.worth = drawn / 80 % 100;
                x.thing(i, thing.with, thing.taken, thing.worth, 1);
                int one = i % 8;
                int coin = drawn % 3 == 0 ? 9999 - drawn / 3 % 300 : drawn / 3 % 1000;
                plain.now.coin.put(one, coin);
                plain.now.shut.remove(one);
                if (drawn % 5 == 0) {
                    plain.now.shut.add(one);
                }
                x.one(one, coin, drawn % 5 == 0 ? 0 : 1);
                int other = (one + 1 + drawn / 9 % 7) % 8;
                plain.now.brothers.add(java.util.Set.of(one, other));
                x.brothers(one, other, true);
            }
            for (int i = 0; i < 20; i++) {
                drawn = (75 * drawn + 74) % 65537;
                compare(x, plain, drawn % 10000, 1 + drawn % 99);
            }
        }
        TwiceStolen late = Due.text(new TwiceStolen(), "............................................................");
        late.done();
        Due.text(late, ".......................................");
        late.done();
        PlainModel plain = new PlainModel();
        plain.now.night = 99;
        for (int seed = 0; seed < 100; seed++) {
            compare(late, plain, seed, 99);
        }
    }

    private static void refusals() {
        TwiceStolen x = new TwiceStolen();
        int[][] wrong = {{-1, 1, 0}, {10000, 1, 0}, {0, 0, 0}, {0, 100, 0}, {0, -1, 0}, {0, 1, -1}, {0, 1, 3},
            {Integer.MIN_VALUE, Integer.MAX_VALUE, Integer.MAX_VALUE}};
        for (int[] w : wrong) {
            Due.due("year " + w[0] + " " + w[1] + " " + w[2], x.year(w[0], w[1], w[2]), -2);
        }
        Due.text(x, "!");
        Due.due("a fault is no matter", x.year(0, 1, 1), 100);
    }
}
