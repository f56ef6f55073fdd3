/** Promise 13: sack. */
public final class SackTest {
    public static void main(String[] args) {
        ordinary();
        ties();
        againstAllSets();
        refusals();
        Due.end();
    }

    private static void ordinary() {
        TwiceStolen x = new TwiceStolen();
        Due.due("ten of others", x.sack(0, 99, 0), 50);
        Due.due("which", x.sack(0, 99, 1), 4095 - 1 - 256);
        Due.due("ten in ten", x.sack(0, 10, 0), 50);
        Due.due("nine in nine", x.sack(0, 9, 0), 45);
        Due.due("the least nine", x.sack(0, 9, 1), 0b011011111110);
        Due.due("nothing in 0", x.sack(0, 0, 0), 0);
        Due.due("nothing in 0", x.sack(0, 0, 1), 0);
        Due.due("of one who has one", x.sack(7, 99, 0), 55);
        Due.text(x, "Ab");
        Due.due("the pad is no matter", x.sack(0, 99, 1), 4095 - 1 - 256);
        x.done();
        Due.due("what is done is", x.sack(0, 99, 1), 4095 - 1 - 2 - 256);
        for (int thing = 0; thing < 12; thing++) {
            x.thing(thing, 3, 0, 9, 9);
        }
        Due.due("nothing is with others", x.sack(3, 99, 0), 0);
        Due.due("nothing is with others", x.sack(3, 99, 1), 0);
        Due.due("eleven go in", x.sack(2, 99, 0), 99);
        Due.due("the least eleven", x.sack(2, 99, 1), 2047);
        Due.due("too heavy", x.sack(2, 8, 0), 0);
        Due.due("just", x.sack(2, 9, 1), 1);
    }

    private static void ties() {
        TwiceStolen x = new TwiceStolen();
        for (int thing = 0; thing < 12; thing++) {
            x.thing(thing, 1, 0, 0, 1);
        }
        Due.due("worth nothing", x.sack(0, 12, 1), 0);
        x.thing(5, 1, 0, 10, 5);
        x.thing(3, 1, 0, 4, 2);
        x.thing(1, 1, 0, 6, 3);
        Due.due("as much by two", x.sack(0, 5, 0), 10);
        Due.due("the least as bits", x.sack(0, 5, 1), 10);
        x.thing(6, 1, 0, 10, 4);
        Due.due("lighter is no matter", x.sack(0, 5, 1), 10);
        Due.due("in four", x.sack(0, 4, 1), 64);
    }

    private static void againstAllSets() {
        int x = 17;
        for (int run = 0; run < 40; run++) {
            TwiceStolen object = new TwiceStolen();
            int[] worth = new int[12];
            int[] weight = new int[12];
            int others = 0;
            for (int thing = 0; thing < 12; thing++) {
                x = (75 * x + 74) % 65537;
                worth[thing] = run % 2 == 0 ? x % 100 : x % 4;
                weight[thing] = 1 + x / 100 % 9;
                int one = x / 1000 % 3;
                others |= one == 0 ? 0 : 1 << thing;
                object.thing(thing, one, 0, worth[thing], weight[thing]);
            }
            for (int c = 0; c < 100; c += 1 + run % 7) {
                int most = -1;
                int which = -1;
                for (int set = 0; set < 4096; set++) {
                    int value = (set & ~others) == 0 && total(set, weight) <= c ? total(set, worth) : -1;
                    if (value > most) {
                        most = value;
                        which = set;
                    }
                }
                Due.due("sack " + run + " of " + c, object.sack(0, c, 0), most);
                Due.due("things " + run + " of " + c, object.sack(0, c, 1), which);
            }
        }
    }

    private static int total(int set, int[] row) {
        int sum = 0;
        for (int i = 0; i < 12; i++) {
            sum += (set >> i & 1) * row[i];
        }
        return sum;
    }

    private static void refusals() {
        TwiceStolen x = new TwiceStolen();
        Due.due("one -1", x.sack(-1, 0, 0), -1);
        Due.due("one 8", x.sack(8, 0, 0), -1);
        Due.due("one 8, all else wrong", x.sack(8, 100, 2), -1);
        Due.due("c -1", x.sack(0, -1, 0), -2);
        Due.due("c 100", x.sack(0, 100, 0), -2);
        Due.due("what -1", x.sack(0, 0, -1), -2);
        Due.due("what 2", x.sack(0, 0, 2), -2);
        Due.text(x, "!");
        Due.due("a fault is no matter", x.sack(0, 1, 0), 5);
    }
}
