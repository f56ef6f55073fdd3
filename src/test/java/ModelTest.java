import java.util.Random;
import java.util.Set;

/** Long drawn runs of the calls about people, things, nights and images beside a plain model. */
public final class ModelTest {
    private static final String SIGNS = "ABCDEFGHabcdefghijkl$*#.!Im";

    private final Random random;
    private final TwiceStolen x = new TwiceStolen();
    private final PlainModel plain = new PlainModel();

    private ModelTest(int seed) {
        random = new Random(seed);
    }

    public static void main(String[] args) {
        for (int seed = 0; seed < 1500; seed++) {
            ModelTest run = new ModelTest(seed);
            for (int step = 0; step < 120; step++) {
                run.step();
            }
        }
        Due.end();
    }

    private void step() {
        int kind = random.nextInt(20);
        if (kind < 12) {
            sayAct();
        } else if (kind < 14) {
            setThing();
        } else if (kind == 14) {
            setOne();
        } else if (kind == 15) {
            setBrothers();
        } else if (kind == 16) {
            images();
        } else if (kind == 17) {
            Due.due("wipe", x.wipe(), plain.pad.length());
            plain.pad = "";
        } else {
            done();
        }
        ask();
    }

    private char draw(String from) {
        return from.charAt(random.nextInt(from.length()));
    }

    private char one() {
        return (char) ('A' + random.nextInt(8));
    }

    // acts that can be are rare by chance, so most are made to fit what is behind the pad
    private void sayAct() {
        boolean can = plain.read() == 0;
        int i = random.nextInt(12);
        char thing = (char) ('a' + i);
        char who = can && random.nextInt(10) > 0 ? (char) ('A' + plain.behind.things.get(i).with) : one();
        String act;
        switch (random.nextInt(9)) {
            case 0: act = who + "$" + thing + one(); break;
            case 1: act = who + "$" + thing + one(); break;
            case 2: act = who + "*" + thing + one(); break;
            case 3: act = one() + "#"; break;
            case 4: act = "."; break;
            case 5: act = random.nextInt(4) == 0 ? "" + draw(SIGNS) : "."; break;
            default: act = "" + one() + thing + one() + thing; break;
        }
        for (int k = 0; k < act.length(); k++) {
            int want = plain.pad.length() >= 60 ? -4 : plain.pad.length() + 1;
            Due.due("say", x.say(act.charAt(k)), want);
            plain.pad += want > 0 ? String.valueOf(act.charAt(k)) : "";
        }
    }

    private void setThing() {
        int i = random.nextInt(12);
        PlainModel.Thing thing = plain.now.things.get(i);
        int before = thing.with;
        thing.with = random.nextInt(8);
        thing.taken = random.nextInt(10);
        thing.worth = random.nextInt(100);
        thing.weight = 1 + random.nextInt(9);
        Due.due("thing", x.thing(i, thing.with, thing.taken, thing.worth, thing.weight), before);
    }

    private void setOne() {
        int one = random.nextInt(8);
        int coin = random.nextBoolean() ? random.nextInt(10000) : 9900 + random.nextInt(100);
        boolean shut = random.nextInt(3) == 0;
        Due.due("one", x.one(one, coin, shut ? 0 : 1), plain.now.coin.get(one));
        plain.now.coin.put(one, coin);
        plain.now.shut.remove(one);
        if (shut) {
            plain.now.shut.add(one);
        }
    }

    private void setBrothers() {
        int one = random.nextInt(8);
        int other = (one + 1 + random.nextInt(7)) % 8;
        boolean is = random.nextInt(4) > 0;
        plain.now.brothers.remove(Set.of(one, other));
        if (is) {
            plain.now.brothers.add(Set.of(one, other));
        }
        Due.due("brothers", x.brothers(one, other, is), plain.now.brothers.size());
    }

    private void images() {
        int k = random.nextInt(2);
        if (random.nextBoolean()) {
            Due.due("image", x.image(k), 1);
            plain.images[k] = new PlainModel.State(plain.now);
        } else {
            Due.due("restore", x.restore(k), plain.images[k] == null ? -3 : 1);
            plain.now = plain.images[k] == null ? plain.now : new PlainModel.State(plain.images[k]);
        }
    }

    private void done() {
        int refusal = plain.read();
        Due.due("done " + plain.pad, x.done(), refusal == 0 ? plain.acts.size() : refusal);
        if (refusal == 0) {
            plain.now = plain.behind;
            plain.pad = "";
        }
    }

    private void ask() {
        int refusal = plain.read();
        boolean can = refusal == 0;
        Due.due("fault " + plain.pad, x.fault(), plain.fault());
        Due.due("judge(0)", x.judge(0), refusal == -5 ? -5 : plain.failed);
        Due.due("judge(1)", x.judge(1), refusal == -5 ? -5 : plain.why);
        Due.due("judge(2)", x.judge(2), can ? plain.sales : refusal);
        Due.due("sold(0)", x.sold(0), can ? plain.firstSale : refusal);
        Due.due("sold(1)", x.sold(1), can ? plain.firstSold : refusal);
        Due.due("sold(2)", x.sold(2), can ? plain.cameTo : refusal);
        for (int i = 0; i < 12; i++) {
            askOfThing(i, refusal);
        }
        int open = 255;
        for (int one = 0; one < 8; one++) {
            Due.due("coin behind", x.purse(one, 0), can ? plain.behind.coin.get(one) : refusal);
            Due.due("things behind", x.purse(one, 1), can ? plain.behind.howMany(one) : refusal);
            Due.due("door behind", x.purse(one, 2), can ? plain.behind.shut.contains(one) ? 0 : 1 : refusal);
            Due.due("coin", x.told(10 + one), plain.now.coin.get(one));
            int bits = 0;
            for (int other = 0; other < 8; other++) {
                bits |= other != one && plain.now.brothers.contains(Set.of(one, other)) ? 1 << other : 0;
            }
            Due.due("brothers of " + one, x.told(20 + one), bits);
            open &= plain.now.shut.contains(one) ? ~(1 << one) : 255;
        }
        Due.due("signs", x.told(0), plain.pad.length());
        Due.due("doors", x.told(1), open);
        Due.due("night", x.told(2), plain.now.night);
    }

    private void askOfThing(int i, int refusal) {
        PlainModel.Thing now = plain.now.things.get(i);
        Due.due("who", x.told(100 + 10 * i), now.with);
        Due.due("taken", x.told(101 + 10 * i), now.taken);
        Due.due("worth", x.told(102 + 10 * i), now.worth);
        Due.due("weight", x.told(103 + 10 * i), now.weight);
        boolean can = refusal == 0;
        PlainModel.Thing behind = can ? plain.behind.things.get(i) : now;
        Due.due("who behind", x.behind(i, 0), can ? behind.with : refusal);
        Due.due("taken behind", x.behind(i, 1), can ? behind.taken : refusal);
        int price = behind.taken < 2 || !can ? 0 : plain.behind.price(i);
        Due.due("price behind", x.behind(i, 2), can ? price : refusal);
    }
}
