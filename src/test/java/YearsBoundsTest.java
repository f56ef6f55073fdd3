/** A YEAR, IMAGES and what is told, sentence by sentence, at their bounds. */
public final class YearsBoundsTest {
    private static final int OUTSIDE = -2;
    private static final int STATE = -3;
    private static final int NONE = -6;

    public static void main(String[] args) {
        seedsAndActs();
        whatIsLeftOver();
        hundredActsAreTooMany();
        kindsThatTake();
        kindThatSells();
        kindThatGives();
        kindOfDoors();
        kindsOfNights();
        eachIfThatCanBe();
        fromAllAsItIs();
        nothingIsDone();
        twoImages();
        allButThePad();
        asItWasWhenKept();
        numbersTold();
        bitsTold();
        lastAndFirstTold();
        Due.end();
    }

    /** The draw behind so many acts, the last of which it tells. */
    private static int drawn(int seed, int acts) {
        int x = seed;
        for (int i = 0; i < acts; i++) {
            x = (75 * x + 74) % 65537;
        }
        return x;
    }

    private static int one(int x) {
        return x % 8;
    }

    private static int kind(int x) {
        return x / 8 % 8;
    }

    private static int thing(int x) {
        return x / 64 % 12;
    }

    private static int other(int x) {
        return x / 64 / 12 % 8;
    }

    private static void seedsAndActs() {
        Due.sentence("A YEAR by a seed (0 to 9999) of m ACTS (1 to 99), from all as it is");
        TwiceStolen x = new TwiceStolen();
        int[][] allowed = {{0, 1}, {0, 99}, {9999, 1}, {9999, 99}};
        for (int[] a : allowed) {
            PlainModel plain = new PlainModel();
            for (int what = 0; what <= 2; what++) {
                Due.due("year " + a[0] + " " + a[1], x.year(a[0], a[1], what), plain.year(a[0], a[1], what));
            }
        }
        int[][] outside = {{-1, 1}, {10000, 1}, {-1, 99}, {10000, 99}, {0, 0}, {9999, 0}, {0, 100}, {9999, 100}};
        for (int[] o : outside) {
            for (int what = 0; what <= 2; what++) {
                Due.due("year " + o[0] + " " + o[1], x.year(o[0], o[1], what), OUTSIDE);
            }
        }
        Due.due("what -1", x.year(0, 1, -1), OUTSIDE);
        Due.due("what 3", x.year(0, 1, 3), OUTSIDE);
    }

    private static void whatIsLeftOver() {
        Due.sentence("becomes (75 x and 74) left over by 65537");
        // 873 gives 65549, so 12: ONE 4 by 1 takes THING 0 from ONE 0
        TwiceStolen x = new TwiceStolen();
        x.thing(0, 0, 1, 5, 1);
        Due.due("just behind what is left over", x.year(873, 1, 2), 1);
        Due.due("just behind what is left over", x.year(873, 1, 0), 1);
        // 872 gives 65474: ONE 2 by 0 takes THING 3
        x = new TwiceStolen();
        x.thing(3, 0, 1, 5, 1);
        Due.due("just ahead of what is left over", x.year(872, 1, 2), 2);
        Due.due("just ahead of what is left over", x.year(872, 1, 0), 1);
        // 9999 gives 11 times 65537 and 29092 more: ONE 4 by 4 gives THING 10
        x = new TwiceStolen();
        x.thing(10, 4, 2, 5, 1);
        Due.due("many times over", x.year(9999, 1, 0), 0);
        // the seed itself is no draw: 0 would be ONE 0 who takes THING 0, 74 is ONE 2 who takes THING 1
        x = new TwiceStolen();
        x.thing(0, 1, 1, 5, 1);
        x.thing(1, 0, 1, 5, 1);
        Due.due("the first draw is that behind the seed", x.year(0, 1, 2), 1);
    }

    private static void hundredActsAreTooMany() {
        Due.sentence("A YEAR by a seed (0 to 9999) of m ACTS (1 to 99), from all as it is");
        TwiceStolen x = new TwiceStolen();
        int told = 0;
        // a last act that tells: its one takes a thing that is with ONE 0, or ONE 0 takes one
        for (int seed = 0; seed < 10000 && told < 20; seed++) {
            if (new PlainModel().year(seed, 98, 2) != new PlainModel().year(seed, 99, 2)) {
                told++;
                Due.due("98 acts by " + seed, x.year(seed, 98, 2), new PlainModel().year(seed, 98, 2));
                Due.due("99 acts by " + seed, x.year(seed, 99, 2), new PlainModel().year(seed, 99, 2));
                Due.due("100 acts by " + seed, x.year(seed, 100, 2), OUTSIDE);
            }
        }
        Due.due("seeds that tell 99 from 98", told, 20);
    }

    private static void kindsThatTake() {
        Due.sentence("0, 1, 2 he takes THING z left over by 12");
        int[] seen = new int[8];
        for (int seed = 0; seed < 2000; seed++) {
            int draw = drawn(seed, 1);
            TwiceStolen x = new TwiceStolen();
            x.thing(thing(draw), (one(draw) + 1) % 8, 1, 0, 1);
            Due.due("taken once, by kind " + kind(draw), x.year(seed, 1, 0), kind(draw) <= 2 ? 1 : 0);
            x.thing(thing(draw), one(draw), 1, 0, 1);
            Due.due("he has it, by kind " + kind(draw), x.year(seed, 1, 0), 0);
            seen[kind(draw)]++;
        }
        for (int kind = 0; kind <= 7; kind++) {
            Due.due("kind " + kind + " was seen", seen[kind] > 0 ? 1 : 0, 1);
        }
    }

    private static void kindThatSells() {
        Due.sentence("3 he sells that to ONE z by 12 (cut) left over by 8");
        for (int seed = 0; seed < 2000; seed++) {
            int draw = drawn(seed, 1);
            if (kind(draw) != 3) {
                continue;
            }
            boolean both = one(draw) == other(draw);
            TwiceStolen x = new TwiceStolen();
            x.thing(thing(draw), one(draw), 2, 7, 1);
            x.one(other(draw), both ? 100 : 7, 1);
            Due.due("sold by seed " + seed, x.year(seed, 1, 0), both ? 1 : 0);
            int coin = both ? 100 : one(draw) == 0 ? 107 : other(draw) == 0 ? 0 : 100;
            Due.due("coin of ONE 0 by seed " + seed, x.year(seed, 1, 1), coin);
            if (!both) {
                x.one(other(draw), 6, 1);
                Due.due("one too little by seed " + seed, x.year(seed, 1, 0), 1);
                x.thing(thing(draw), one(draw), 9, 7, 1);
                Due.due("for nothing by seed " + seed, x.year(seed, 1, 0), 0);
            }
        }
    }

    private static void kindThatGives() {
        Due.sentence("4 he gives it to that one");
        for (int seed = 0; seed < 2000; seed++) {
            int draw = drawn(seed, 1);
            if (kind(draw) != 4) {
                continue;
            }
            boolean both = one(draw) == other(draw);
            TwiceStolen x = new TwiceStolen();
            x.thing(thing(draw), one(draw), 9, 7, 1);
            int own = x.purse(0, 1);
            Due.due("given by seed " + seed, x.year(seed, 1, 0), both ? 1 : 0);
            int more = both ? 0 : other(draw) == 0 ? 1 : one(draw) == 0 ? -1 : 0;
            Due.due("things of ONE 0 by seed " + seed, x.year(seed, 1, 2), own + more);
            Due.due("coin of ONE 0 by seed " + seed, x.year(seed, 1, 1), 100);
            x.thing(thing(draw), (one(draw) + 1) % 8, 9, 7, 1);
            Due.due("he has it not, by seed " + seed, x.year(seed, 1, 0), 1);
        }
    }

    private static void kindOfDoors() {
        Due.sentence("5 his DOOR, 6, 7 a night; each if that can be");
        int seen = 0;
        for (int seed = 0; seed < 10000; seed++) {
            int first = drawn(seed, 1);
            int second = drawn(seed, 2);
            if (kind(first) != 5 || kind(second) > 2 || one(first) == one(second)) {
                continue;
            }
            seen++;
            TwiceStolen x = new TwiceStolen();
            x.thing(thing(second), one(first), 1, 0, 1);
            Due.due("he shuts it, by seed " + seed, x.year(seed, 2, 0), 0);
            x.one(one(first), 100, 0);
            Due.due("it is ajar again, by seed " + seed, x.year(seed, 2, 0), 1);
        }
        Due.due("such seeds", seen > 100 ? 1 : 0, 1);
    }

    private static void kindsOfNights() {
        Due.sentence("5 his DOOR, 6, 7 a night; each if that can be");
        int[] seen = new int[8];
        for (int seed = 0; seed < 10000; seed++) {
            int first = drawn(seed, 1);
            int second = drawn(seed, 2);
            if (kind(first) < 5 || kind(second) > 2) {
                continue;
            }
            seen[kind(first)]++;
            int from = (one(second) + 1) % 8;
            TwiceStolen x = new TwiceStolen();
            x.thing(thing(second), from, 1, 0, 1);
            boolean shut = kind(first) == 5 && one(first) == from;
            Due.due("owned up by kind " + kind(first), x.year(seed, 2, 0), kind(first) >= 6 || shut ? 0 : 1);
            x.thing(thing(second), from, 2, 0, 1);
            x.one(from, 100, 0);
            Due.due("doors ajar by kind " + kind(first), x.year(seed, 2, 0), 1);
        }
        Due.due("kind 6 was seen", seen[6] > 100 ? 1 : 0, 1);
        Due.due("kind 7 was seen", seen[7] > 100 ? 1 : 0, 1);
    }

    private static void eachIfThatCanBe() {
        Due.sentence("5 his DOOR, 6, 7 a night; each if that can be");
        for (int night = 97; night <= 99; night++) {
            int last = night;
            int seen = 0;
            for (int seed = 0; seed < 10000 && seen < 40; seed++) {
                int first = drawn(seed, 1);
                int second = drawn(seed, 2);
                if (kind(first) < 6 || kind(second) > 2) {
                    continue;
                }
                seen++;
                TwiceStolen x = Due.text(new TwiceStolen(), ".".repeat(50));
                x.done();
                Due.text(x, ".".repeat(night - 50));
                x.done();
                x.thing(thing(second), (one(second) + 1) % 8, 1, 0, 1);
                Due.due("night " + last + ", seed " + seed, x.year(seed, 2, 0), last == 99 ? 1 : 0);
                x.thing(thing(second), (one(second) + 1) % 8, 9, 0, 1);
                Due.due("nine times, seed " + seed, x.year(seed, 2, 0), 1);
            }
            Due.due("such seeds", seen, 40);
        }
    }

    private static void fromAllAsItIs() {
        Due.sentence("A YEAR by a seed (0 to 9999) of m ACTS (1 to 99), from all as it is");
        // seed 0: 74, so ONE 2 by 1 takes THING 1
        TwiceStolen x = new TwiceStolen();
        Due.due("things of ONE 0", x.year(0, 1, 2), 2);
        for (int thing = 0; thing <= 11; thing++) {
            x.thing(thing, 0, 1, 5, 1);
        }
        Due.due("all but that", x.year(0, 1, 2), 11);
        Due.due("that was taken twice", x.year(0, 1, 0), 1);
        x.brothers(0, 2, true);
        Due.due("from a brother", x.year(0, 1, 0), 0);
        x.brothers(0, 2, false);
        x.one(0, 9999, 0);
        Due.due("his door is shut", x.year(0, 1, 2), 12);
        Due.due("his coin", x.year(0, 1, 1), 9999);
        Due.text(x, "A#Bb");
        Due.due("the pad is not done", x.year(0, 1, 2), 12);
        Due.text(x, "!");
        Due.due("nor its fault a matter", x.year(0, 1, 2), 12);
    }

    private static void nothingIsDone() {
        Due.sentence("Nothing is DONE in fact.");
        for (String state : States.all()) {
            TwiceStolen x = States.make(state);
            for (int what = 0; what <= 2; what++) {
                x.year(5, 90, what);
                x.year(9999, 99, what);
            }
            Due.same("years in state '" + state + "'", States.whole(x), States.whole(States.make(state)));
        }
    }

    private static void twoImages() {
        Due.sentence("All but the PAD is kept in an IMAGE (0, 1): 1. OUTSIDE.");
        TwiceStolen x = new TwiceStolen();
        Due.due("image -1", x.image(-1), OUTSIDE);
        Due.due("image 2", x.image(2), OUTSIDE);
        Due.due("none was kept", x.restore(0), STATE);
        Due.due("none was kept", x.restore(1), STATE);
        x.one(0, 1, 1);
        Due.due("image 1", x.image(1), 1);
        Due.due("the other was not", x.restore(0), STATE);
        x.one(0, 2, 1);
        Due.due("image 0", x.image(0), 1);
        x.one(0, 3, 1);
        Due.due("restore 1", x.restore(1), 1);
        Due.due("coin", x.told(10), 1);
        Due.due("restore 0", x.restore(0), 1);
        Due.due("coin", x.told(10), 2);
        Due.due("restore -1", x.restore(-1), OUTSIDE);
        Due.due("restore 2", x.restore(2), OUTSIDE);
        Due.due("coin", x.told(10), 2);
        Due.due("an image of what was restored", x.image(1), 1);
        x.one(0, 4, 1);
        Due.due("restore 1", x.restore(1), 1);
        Due.due("coin", x.told(10), 2);
    }

    private static void allButThePad() {
        Due.sentence("All but the PAD is kept in an IMAGE (0, 1): 1. OUTSIDE.");
        for (int k = 0; k <= 1; k++) {
            TwiceStolen x = new TwiceStolen();
            x.image(k);
            Due.text(x, ".A#Bb");
            x.done();
            x.thing(11, 7, 9, 99, 9);
            x.one(7, 9999, 0);
            x.brothers(0, 7, true);
            x.ahead(4, 0);
            Due.text(x, "Ba!");
            Due.due("restored", x.restore(k), 1);
            Due.due("who", x.told(210), 3);
            Due.due("taken", x.told(211), 0);
            Due.due("worth", x.told(212), 5);
            Due.due("weight", x.told(213), 1);
            Due.due("coin", x.told(17), 100);
            Due.due("doors", x.told(1), 255);
            Due.due("brothers", x.told(20), 0);
            Due.due("night", x.told(2), 0);
            Due.due("sights", x.told(3), 0);
            Due.due("fit", x.fits(-1), 120);
            Due.due("the pad stays", x.told(0), 3);
            Due.due("its fault stays", x.fault(), 2);
            x.image(k);
            x.wipe();
            x.restore(k);
            Due.due("no pad comes back", x.told(0), 0);
            Due.due("no fault comes back", x.fault(), NONE);
        }
    }

    private static void asItWasWhenKept() {
        Due.sentence("It is as it was when it was kept: 1. OUTSIDE; STATE: it was not.");
        TwiceStolen x = States.make("rich");
        String rich = Due.state(x);
        x.image(0);
        for (int times = 0; times < 3; times++) {
            x.ahead(times, 4);
            Due.text(x, "Ba..C#");
            x.done();
            Due.due("it is another", Due.state(x).equals(rich) ? 1 : 0, 0);
            Due.due("restored", x.restore(0), 1);
            Due.same("restored", Due.state(x), rich);
        }
        x.ahead(0, 4);
        x.image(0);
        x.forget();
        x.restore(0);
        Due.due("the later image is that which is kept", x.told(3), 2);
        Due.due("which they are", x.fits(0), 2314);
        Due.due("which they are", x.fits(-1), 30);
        for (int i = 3; i <= 8; i++) {
            x.ahead(4, 2);
        }
        x.image(1);
        x.forget();
        x.restore(1);
        Due.due("eight sights", x.told(3), 8);
        Due.due("no ninth", x.ahead(2, 4), -4);
        Due.due("which they are", x.fits(0), 3142);
        x.forget();
        x.ahead(4, 3);
        x.ahead(4, 3);
        x.restore(0);
        Due.due("two sights", x.told(3), 2);
        Due.due("which they are", x.fits(0), 2314);
        Due.due("a third", x.ahead(2, 4), 3);
    }

    private static void numbersTold() {
        Due.sentence("0 signs, 1 whose DOORS are ajar (bits), 2 the night, 3 SIGHTS");
        TwiceStolen x = new TwiceStolen();
        for (int what = 0; what <= 3; what++) {
            Due.due("told " + what, x.told(what), what == 1 ? 255 : 0);
        }
        Due.text(x, ".".repeat(60));
        Due.due("most signs", x.told(0), 60);
        x.done();
        Due.text(x, ".".repeat(39));
        x.done();
        Due.due("last night", x.told(2), 99);
        for (int i = 0; i < 8; i++) {
            x.ahead(0, 4);
        }
        Due.due("most sights", x.told(3), 8);
        Due.due("told -1", x.told(-1), OUTSIDE);
        Due.due("told 4", x.told(4), OUTSIDE);
    }

    private static void bitsTold() {
        Due.sentence("Sets are bits.");
        TwiceStolen x = new TwiceStolen();
        x.one(0, 100, 0);
        Due.due("bit 0 of doors", x.told(1), 254);
        x.one(7, 100, 0);
        Due.due("bit 7 of doors", x.told(1), 126);
        x.brothers(0, 7, true);
        Due.due("bit 7 of brothers", x.told(20), 128);
        Due.due("bit 0 of brothers", x.told(27), 1);
        x.thing(0, 0, 1, 9, 1);
        x.thing(11, 0, 2, 9, 1);
        Due.due("bits 0 and 11 of a sack", x.sack(1, 2, 1), 2049);
        Due.due("bit 0 of a set", x.careers(1, 1), 1);
        Due.due("bit 11 of a set", x.careers(1, 2048), 0);
    }

    private static void lastAndFirstTold() {
        Due.sentence("10 and a ONE: COIN; 20 and a ONE: his BROTHERS (bits)");
        TwiceStolen x = new TwiceStolen();
        for (int what = 10; what <= 29; what++) {
            boolean is = what <= 17 || what >= 20 && what <= 27;
            Due.due("told " + what, x.told(what), !is ? OUTSIDE : what < 20 ? 100 : 0);
        }
        Due.due("told 9", x.told(9), OUTSIDE);
        Due.due("told 30", x.told(30), OUTSIDE);
        Due.sentence("100 and 10 times a THING and 0 who has it, 1 TAKEN, 2 WORTH, 3 WEIGHT. OUTSIDE.");
        for (int thing = 0; thing <= 11; thing++) {
            int at = 100 + 10 * thing;
            int[] due = {thing % 8, 0, 5, 1, OUTSIDE, OUTSIDE, OUTSIDE, OUTSIDE, OUTSIDE, OUTSIDE};
            for (int what = 0; what <= 9; what++) {
                Due.due("told " + (at + what), x.told(at + what), due[what]);
            }
        }
        for (int what : new int[] {90, 91, 99, 220, 221, 223, 1000, Integer.MAX_VALUE, Integer.MIN_VALUE}) {
            Due.due("told " + what, x.told(what), OUTSIDE);
        }
    }
}
