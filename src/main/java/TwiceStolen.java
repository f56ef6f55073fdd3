/**
 * What has been stolen twice may be sold: things, the ones who have them, and nights of takings,
 * sales and gifts told as small texts. The promises stand in ../shared/DOC.md.
 */
public final class TwiceStolen {
    public static final int UNKNOWN = -1, OUTSIDE = -2, STATE = -3, FULL = -4, NO = -5, NONE = -6;
    public static final long GONE = -1000000000000000000L;

    private static final int THINGS = 12;
    private static final int ONES = 8;
    private static final int MOST_TAKEN = 9;
    private static final int MOST_WORTH = 99;
    private static final int MOST_WEIGHT = 9;
    private static final int MOST_COIN = 9999;
    private static final int MOST_IN_SACK = 99;
    private static final int LAST_NIGHT = 99;
    private static final int FIT_FOR_SALE = 2;

    private final World now = new World();
    private final World dreamt = new World();
    private final Pad pad = new Pad();
    private final Trial trial = new Trial();
    private final Sack packed = new Sack();
    private final Ring trail = new Ring();
    private final Career career = new Career();
    private final Hands hands = new Hands();
    private final Shelf robbed = new Shelf();
    private final Chances chances = new Chances();
    private final World firstImage = new World();
    private final World secondImage = new World();
    private int keptImages = 0;

    public TwiceStolen() {
    }

    // ---- 1 things, people

    public int thing(int thing, int one, int taken, int worth, int weight) {
        if (!isThing(thing) || !isOne(one)) {
            return UNKNOWN;
        }
        if (!Row.within(taken, 0, MOST_TAKEN) || !Row.within(worth, 0, MOST_WORTH)
                || !Row.within(weight, 1, MOST_WEIGHT)) {
            return OUTSIDE;
        }
        int before = Row.at(now.holder, thing);
        Row.put(now.holder, thing, one);
        Row.put(now.taken, thing, taken);
        Row.put(now.worth, thing, worth);
        Row.put(now.weight, thing, weight);
        return before;
    }

    public int one(int one, int coin, int door) {
        if (!isOne(one)) {
            return UNKNOWN;
        }
        if (!Row.within(coin, 0, MOST_COIN) || !Row.within(door, 0, 1)) {
            return OUTSIDE;
        }
        int before = Row.at(now.coin, one);
        Row.put(now.coin, one, coin);
        now.ajar = door == 1 ? now.ajar | 1 << one : now.ajar & ~(1 << one);
        return before;
    }

    public int brothers(int one, int other, boolean is) {
        if (!isOne(one) || !isOne(other) || one == other) {
            return UNKNOWN;
        }
        now.bind(one, other, is);
        now.bind(other, one, is);
        return now.pairsOfBrothers();
    }

    public int say(int sign) {
        if (!Row.within(sign, Pad.LEAST_SIGN, Pad.MOST_SIGN)) {
            return OUTSIDE;
        }
        if (pad.size >= Pad.MOST_SIGNS) {
            return FULL;
        }
        pad.add(sign);
        return pad.size;
    }

    public int wipe() {
        int before = pad.size;
        pad.size = 0;
        return before;
    }

    public int fault() {
        return pad.faultPlace();
    }

    // ---- 2 nights, sacks

    public int judge(int what) {
        if (!Row.within(what, 0, 2)) {
            return OUTSIDE;
        }
        int refusal = trial.run(now, pad);
        if (refusal == NO) {
            return NO;
        }
        if (what == 0) {
            return trial.failed;
        }
        if (what == 1) {
            return trial.why;
        }
        return refusal == STATE ? STATE : trial.sales;
    }

    public int behind(int thing, int what) {
        if (!isThing(thing)) {
            return UNKNOWN;
        }
        if (!Row.within(what, 0, 2)) {
            return OUTSIDE;
        }
        int refusal = trial.run(now, pad);
        if (refusal != 0) {
            return refusal;
        }
        if (what == 0) {
            return Row.at(trial.world.holder, thing);
        }
        if (what == 1) {
            return Row.at(trial.world.taken, thing);
        }
        return trial.world.isFitForSale(thing) ? trial.world.priceOf(thing) : 0;
    }

    public int purse(int one, int what) {
        if (!isOne(one)) {
            return UNKNOWN;
        }
        if (!Row.within(what, 0, 2)) {
            return OUTSIDE;
        }
        int refusal = trial.run(now, pad);
        if (refusal != 0) {
            return refusal;
        }
        if (what == 0) {
            return Row.at(trial.world.coin, one);
        }
        if (what == 1) {
            return trial.world.thingsOf(one);
        }
        return trial.world.isAjar(one) ? 1 : 0;
    }

    public int sold(int what) {
        if (!Row.within(what, 0, 2)) {
            return OUTSIDE;
        }
        int refusal = trial.run(now, pad);
        if (refusal != 0) {
            return refusal;
        }
        if (what == 0) {
            return trial.firstSale;
        }
        return what == 1 ? trial.firstSold : trial.cameTo;
    }

    public int done() {
        int refusal = trial.run(now, pad);
        if (refusal != 0) {
            return refusal;
        }
        now.copy(trial.world);
        pad.size = 0;
        return trial.acts;
    }

    public int sack(int one, int c, int what) {
        if (!isOne(one)) {
            return UNKNOWN;
        }
        if (!Row.within(c, 0, MOST_IN_SACK) || !Row.within(what, 0, 1)) {
            return OUTSIDE;
        }
        packed.fill(now, one, c);
        return what == 0 ? Row.at(packed.worth, c) : Row.at(packed.things, c);
    }

    // ---- 3 careers, rings, when to stop

    public int careers(int n, int set) {
        if (!Row.within(n, 1, ONES) || !Row.within(set, 0, (1 << THINGS) - 1)) {
            return OUTSIDE;
        }
        return fewestNights(n, set);
    }

    public int ring(int row, int one, int m, int what) {
        if (!isOne(one)) {
            return UNKNOWN;
        }
        if (!Row.within(m, 0, 999999999) || !Row.within(what, 0, 2) || !trail.read(row)) {
            return OUTSIDE;
        }
        trail.follow(one);
        if (what == 0) {
            return trail.holderBehind(m);
        }
        return what == 1 ? trail.nights : trail.round;
    }

    public long stop(int row, int n, int t, int part) {
        if (!Row.within(part, 0, 1) || !Row.within(t, 0, 10) || !career.read(row, n)) {
            return GONE + OUTSIDE;
        }
        career.judgeStops(t);
        return Chances.inLowestTerms(career.upper, career.lower, part);
    }

    public int sells(int row, int n, int t) {
        if (!Row.within(t, 0, 10) || !career.read(row, n)) {
            return OUTSIDE;
        }
        career.judgeStops(t);
        return career.takings;
    }

    // ---- 4 who had it, shelves, doors

    public int ahead(int a, int b) {
        if (!Row.within(a, 0, Hands.COUNT - 1) || !Row.within(b, 0, Hands.COUNT - 1) || a == b) {
            return OUTSIDE;
        }
        if (now.sights.count >= Sights.MOST) {
            return FULL;
        }
        now.sights.add(a, b);
        return now.sights.count;
    }

    public int forget() {
        int before = now.sights.count;
        now.sights.count = 0;
        return before;
    }

    public int fits(int i) {
        return hands.fittingRow(now.sights, i);
    }

    public int ask(int what) {
        if (!Row.within(what, 0, 1)) {
            return OUTSIDE;
        }
        hands.chooseQuestion(now.sights);
        return what == 0 ? hands.question : hands.leftAtMost;
    }

    public int shelf(int h, int w, int what) {
        if (!Row.within(h, 1, Shelf.ROWS) || !Row.within(w, 1, Shelf.PLACES)
                || !Row.within(what, 0, 1)) {
            return OUTSIDE;
        }
        int first = robbed.firstWinning(h, w);
        if (what == 1) {
            return first;
        }
        return first == NONE ? 0 : 1;
    }

    public long doors(int n, int d, int what, int part) {
        if (!Row.within(n, 0, Chances.MOST_THIEVES) || !Row.within(d, 1, Chances.MOST_DOORS)
                || !Row.within(what, 0, 1) || !Row.within(part, 0, 1)) {
            return GONE + OUTSIDE;
        }
        chances.countWays(n, d);
        // no two go to one: as many doors are gone to as there are thieves
        long ways = chances.waysTo(what == 0 ? n : d);
        return Chances.inLowestTerms(ways, chances.allWays, part);
    }

    public int year(int seed, int m, int what) {
        if (!Row.within(seed, 0, 9999) || !Row.within(m, 1, 99) || !Row.within(what, 0, 2)) {
            return OUTSIDE;
        }
        dreamt.copy(now);
        liveThrough(dreamt, seed, m);
        if (what == 0) {
            return dreamt.thingsFitForSale();
        }
        return what == 1 ? Row.at(dreamt.coin, 0) : dreamt.thingsOf(0);
    }

    public int image(int k) {
        if (!Row.within(k, 0, 1)) {
            return OUTSIDE;
        }
        imageOf(k).copy(now);
        keptImages |= 1 << k;
        return 1;
    }

    public int restore(int k) {
        if (!Row.within(k, 0, 1)) {
            return OUTSIDE;
        }
        if ((keptImages >> k & 1) == 0) {
            return STATE;
        }
        now.copy(imageOf(k));
        return 1;
    }

    public int told(int what) {
        if (what >= 100) {
            return toldOfThing((what - 100) / 10, (what - 100) % 10);
        }
        if (Row.within(what, 20, 20 + ONES - 1)) {
            return Row.at(now.kin, what - 20);
        }
        if (Row.within(what, 10, 10 + ONES - 1)) {
            return Row.at(now.coin, what - 10);
        }
        switch (what) {
            case 0:
                return pad.size;
            case 1:
                return now.ajar;
            case 2:
                return now.night;
            case 3:
                return now.sights.count;
            default:
                return OUTSIDE;
        }
    }

    private int toldOfThing(int thing, int what) {
        if (!isThing(thing)) {
            return OUTSIDE;
        }
        switch (what) {
            case 0:
                return Row.at(now.holder, thing);
            case 1:
                return Row.at(now.taken, thing);
            case 2:
                return Row.at(now.worth, thing);
            case 3:
                return Row.at(now.weight, thing);
            default:
                return OUTSIDE;
        }
    }

    private static boolean isThing(int thing) {
        return Row.within(thing, 0, THINGS - 1);
    }

    private static boolean isOne(int one) {
        return Row.within(one, 0, ONES - 1);
    }

    private World imageOf(int k) {
        return k == 0 ? firstImage : secondImage;
    }

    private int fewestNights(int n, int set) {
        int needed = 0;
        int mostForOne = 0;
        for (int thing = 0; thing < THINGS; thing++) {
            if ((set >> thing & 1) == 1) {
                int lacking = Math.max(0, FIT_FOR_SALE - Row.at(now.taken, thing));
                needed += lacking;
                mostForOne = Math.max(mostForOne, lacking);
            }
        }
        int nightsFull = n > 0 ? (needed + n - 1) / n : 0;
        // takings can always be dealt out over nights so that no more than these two are needed
        return Math.max(mostForOne, nightsFull);
    }

    private static void liveThrough(World world, int seed, int m) {
        int x = seed;
        for (int i = 0; i < m; i++) {
            x = (75 * x + 74) % 65537;
            int z = x / 64;
            world.act(kindInYear(x / 8 % 8), x % ONES, z % THINGS, z / THINGS % ONES);
        }
    }

    private static int kindInYear(int drawn) {
        switch (drawn) {
            case 0:
            case 1:
            case 2:
                return World.TAKING;
            case 3:
                return World.SALE;
            case 4:
                return World.GIFT;
            case 5:
                return World.DOOR;
            default:
                return World.NIGHT;
        }
    }

    /** Rows that can not be overrun: past an end stands 0, and what is put there is let go. */
    static final class Row {
        static boolean within(int number, int least, int most) {
            return number >= least && number <= most;
        }

        static int at(int[] row, int i) {
            return i >= 0 && i < row.length ? row[i] : 0;
        }

        static void put(int[] row, int i, int value) {
            if (i >= 0 && i < row.length) {
                row[i] = value;
            }
        }

        static void fill(int[] row, int value) {
            for (int i = 0; i < row.length; i++) {
                row[i] = value;
            }
        }

        static void copy(int[] from, int[] to) {
            for (int i = 0; i < to.length; i++) {
                to[i] = at(from, i);
            }
        }

        /** The last digits of a number, as many as asked for; whether these were all it has. */
        static boolean readDigits(int number, int digits, int[] to) {
            int rest = number;
            for (int i = digits - 1; i >= 0; i--) {
                put(to, i, rest % 10);
                rest /= 10;
            }
            return number >= 0 && rest == 0;
        }
    }

    /** All but the pad: people, things, the night, sights, and the acts that change them. */
    static final class World {
        static final int TAKING = 0;
        static final int SALE = 1;
        static final int GIFT = 2;
        static final int DOOR = 3;
        static final int NIGHT = 4;

        static final int HAS_IT_OR_NOT = 1;
        static final int DOOR_IS_SHUT = 2;
        static final int BOTH_ARE_ONE = 3;
        static final int NOT_TAKEN_TWICE = 4;
        static final int TOO_LITTLE_COIN = 5;
        static final int NO_NIGHT_LEFT = 6;

        final int[] holder = new int[THINGS];
        final int[] taken = new int[THINGS];
        final int[] worth = new int[THINGS];
        final int[] weight = new int[THINGS];
        final int[] coin = new int[ONES];
        final int[] kin = new int[ONES];
        final Sights sights = new Sights();
        int ajar = (1 << ONES) - 1;
        int night = 0;

        World() {
            for (int thing = 0; thing < THINGS; thing++) {
                Row.put(holder, thing, thing % ONES);
            }
            Row.fill(worth, 5);
            Row.fill(weight, 1);
            Row.fill(coin, 100);
        }

        void copy(World from) {
            Row.copy(from.holder, holder);
            Row.copy(from.taken, taken);
            Row.copy(from.worth, worth);
            Row.copy(from.weight, weight);
            Row.copy(from.coin, coin);
            Row.copy(from.kin, kin);
            sights.copy(from.sights);
            ajar = from.ajar;
            night = from.night;
        }

        void bind(int one, int other, boolean is) {
            int bits = Row.at(kin, one);
            Row.put(kin, one, is ? bits | 1 << other : bits & ~(1 << other));
        }

        int pairsOfBrothers() {
            int bits = 0;
            for (int one = 0; one < ONES; one++) {
                bits += Integer.bitCount(Row.at(kin, one));
            }
            return bits / 2;
        }

        boolean areBrothers(int one, int other) {
            return (Row.at(kin, one) >> other & 1) == 1;
        }

        boolean isAjar(int one) {
            return (ajar >> one & 1) == 1;
        }

        boolean isFitForSale(int thing) {
            return Row.at(taken, thing) >= FIT_FOR_SALE;
        }

        int priceOf(int thing) {
            int times = Row.at(taken, thing);
            return times == MOST_TAKEN ? 0 : Row.at(worth, thing) * (times - 1);
        }

        int thingsOf(int one) {
            int things = 0;
            for (int thing = 0; thing < THINGS; thing++) {
                if (Row.at(holder, thing) == one) {
                    things++;
                }
            }
            return things;
        }

        int thingsFitForSale() {
            int things = 0;
            for (int thing = 0; thing < THINGS; thing++) {
                if (isFitForSale(thing)) {
                    things++;
                }
            }
            return things;
        }

        /** Does an act, or leaves all as it is and answers the least reason why it can not be. */
        int act(int kind, int one, int thing, int other) {
            switch (kind) {
                case TAKING:
                    return take(one, thing);
                case SALE:
                    return sell(one, thing, other);
                case GIFT:
                    return give(one, thing, other);
                case DOOR:
                    ajar ^= 1 << one;
                    return 0;
                default:
                    return passNight();
            }
        }

        private int take(int one, int thing) {
            int from = Row.at(holder, thing);
            if (from == one) {
                return HAS_IT_OR_NOT;
            }
            if (!isAjar(from)) {
                return DOOR_IS_SHUT;
            }
            if (!areBrothers(from, one)) {
                Row.put(taken, thing, Math.min(MOST_TAKEN, Row.at(taken, thing) + 1));
            }
            Row.put(holder, thing, one);
            return 0;
        }

        private int sell(int one, int thing, int buyer) {
            int reason = reasonAgainstHanding(one, thing, buyer);
            if (reason != 0) {
                return reason;
            }
            if (!isFitForSale(thing)) {
                return NOT_TAKEN_TWICE;
            }
            int price = priceOf(thing);
            if (Row.at(coin, buyer) < price) {
                return TOO_LITTLE_COIN;
            }
            Row.put(coin, buyer, Row.at(coin, buyer) - price);
            Row.put(coin, one, Math.min(MOST_COIN, Row.at(coin, one) + price));
            hand(thing, buyer);
            return 0;
        }

        private int give(int one, int thing, int friend) {
            int reason = reasonAgainstHanding(one, thing, friend);
            if (reason == 0) {
                hand(thing, friend);
            }
            return reason;
        }

        private int reasonAgainstHanding(int one, int thing, int other) {
            if (Row.at(holder, thing) != one) {
                return HAS_IT_OR_NOT;
            }
            return one == other ? BOTH_ARE_ONE : 0;
        }

        private void hand(int thing, int other) {
            Row.put(holder, thing, other);
            Row.put(taken, thing, 0);
        }

        private int passNight() {
            if (night >= LAST_NIGHT) {
                return NO_NIGHT_LEFT;
            }
            night++;
            ajar = (1 << ONES) - 1;
            for (int thing = 0; thing < THINGS; thing++) {
                if (Row.at(taken, thing) == 1) {
                    Row.put(taken, thing, 0);
                }
            }
            return 0;
        }
    }

    /** The signs said so far, and where an act ends among them. */
    static final class Pad {
        static final int MOST_SIGNS = 60;
        static final int LEAST_SIGN = 33;
        static final int MOST_SIGN = 126;

        // what must come next
        static final int ACT = 0;
        static final int DEED = 1;
        static final int GOODS = 2;
        static final int RECEIVER = 3;
        static final int NOTHING = 4;

        final int[] signs = new int[MOST_SIGNS];
        int size = 0;

        void add(int sign) {
            if (size < MOST_SIGNS) {
                Row.put(signs, size, sign);
                size++;
            }
        }

        int signAt(int place) {
            return Row.at(signs, place);
        }

        int faultPlace() {
            int due = ACT;
            for (int place = 0; place < size; place++) {
                due = dueBehind(due, signAt(place));
                if (due == NOTHING) {
                    return place;
                }
            }
            return due == ACT ? NONE : size;
        }

        /** What must come behind a sign that was said where this was due. */
        static int dueBehind(int due, int sign) {
            boolean isOne = Row.within(sign, 'A', 'A' + ONES - 1);
            boolean isThing = Row.within(sign, 'a', 'a' + THINGS - 1);
            switch (due) {
                case ACT:
                    if (sign == '.') {
                        return ACT;
                    }
                    return isOne ? DEED : NOTHING;
                case DEED:
                    if (sign == '$' || sign == '*') {
                        return GOODS;
                    }
                    return isThing || sign == '#' ? ACT : NOTHING;
                case GOODS:
                    return isThing ? RECEIVER : NOTHING;
                case RECEIVER:
                    return isOne ? ACT : NOTHING;
                default:
                    return NOTHING;
            }
        }

        /** The kind of the act that begins at a place of a pad without a fault. */
        int kindAt(int place) {
            if (signAt(place) == '.') {
                return World.NIGHT;
            }
            switch (signAt(place + 1)) {
                case '#':
                    return World.DOOR;
                case '$':
                    return World.SALE;
                case '*':
                    return World.GIFT;
                default:
                    return World.TAKING;
            }
        }

        static int lengthOf(int kind) {
            if (kind == World.NIGHT) {
                return 1;
            }
            return kind == World.SALE || kind == World.GIFT ? 4 : 2;
        }
    }

    /** The acts of a pad, tried on a copy of the world up to the first that can not be. */
    static final class Trial {
        final World world = new World();
        int acts;
        int failed;
        int why;
        int sales;
        int firstSale;
        int firstSold;
        int cameTo;

        /** Answers 0 if all can be, or the refusal: NO, and nothing is tried then, or STATE. */
        int run(World from, Pad pad) {
            if (pad.faultPlace() != NONE) {
                return NO;
            }
            begin(from);
            for (int place = 0; place < pad.size && failed == NONE; ) {
                int kind = pad.kindAt(place);
                tryAct(kind, pad, place);
                place += Math.max(1, Pad.lengthOf(kind));
            }
            return failed == NONE ? 0 : STATE;
        }

        private void begin(World from) {
            world.copy(from);
            acts = 0;
            failed = NONE;
            why = NONE;
            sales = 0;
            firstSale = NONE;
            firstSold = NONE;
            cameTo = 0;
        }

        private void tryAct(int kind, Pad pad, int place) {
            int one = pad.signAt(place) - 'A';
            int thing = pad.signAt(kind == World.TAKING ? place + 1 : place + 2) - 'a';
            int other = pad.signAt(place + 3) - 'A';
            int price = world.priceOf(thing);
            int reason = world.act(kind, one, thing, other);
            if (reason != 0) {
                failed = acts;
                why = reason;
                return;
            }
            if (kind == World.SALE) {
                noteSale(thing, price);
            }
            acts++;
        }

        private void noteSale(int thing, int price) {
            if (sales == 0) {
                firstSale = acts;
                firstSold = thing;
            }
            sales++;
            cameTo += price;
        }
    }

    /** For each weight the most worth that goes in so much, and the least set of as much. */
    static final class Sack {
        final int[] worth = new int[MOST_IN_SACK + 1];
        final int[] things = new int[MOST_IN_SACK + 1];

        void fill(World world, int one, int most) {
            Row.fill(worth, 0);
            Row.fill(things, 0);
            for (int thing = 0; thing < THINGS; thing++) {
                if (Row.at(world.holder, thing) != one) {
                    offer(thing, Row.at(world.worth, thing), Row.at(world.weight, thing), most);
                }
            }
        }

        // a thing that only makes as much stays out: its bit is above those of all before it
        private void offer(int thing, int worthMore, int weight, int most) {
            for (int room = most; room >= weight; room--) {
                int withIt = Row.at(worth, room - weight) + worthMore;
                if (withIt > Row.at(worth, room)) {
                    Row.put(worth, room, withIt);
                    Row.put(things, room, Row.at(things, room - weight) | 1 << thing);
                }
            }
        }
    }

    /** Where things go when each one's things go to the next night by night. */
    static final class Ring {
        final int[] next = new int[ONES];
        final int[] path = new int[ONES];
        final int[] nightOf = new int[ONES];
        int nights;
        int lead;
        int round;

        boolean read(int row) {
            boolean isRow = Row.readDigits(row, ONES, next);
            for (int one = 0; one < ONES; one++) {
                isRow = isRow && Row.within(Row.at(next, one), 0, ONES - 1);
            }
            return isRow;
        }

        void follow(int one) {
            Row.fill(nightOf, NONE);
            nights = 0;
            int holder = one;
            while (nights < ONES && Row.at(nightOf, holder) == NONE) {
                Row.put(nightOf, holder, nights);
                Row.put(path, nights, holder);
                holder = Row.at(next, holder);
                nights++;
            }
            lead = Row.at(nightOf, holder);
            round = nights - lead;
        }

        int holderBehind(int m) {
            if (m < nights || round <= 0) {
                return Row.at(path, m);
            }
            return Row.at(path, lead + (m - lead) % round);
        }
    }

    /** A thing's worth from taking to taking, and behind which taking it is sold best. */
    static final class Career {
        static final int MOST_DIGITS = 9;

        final int[] worth = new int[MOST_DIGITS];
        int digits;
        int takings;
        long upper;
        long lower;

        boolean read(int row, int n) {
            if (!Row.within(n, 1, MOST_DIGITS)) {
                return false;
            }
            digits = n;
            return Row.readDigits(row, n, worth);
        }

        // what is lost is worth nothing, so there is nothing to choose on the way: it is as good
        // to settle at first behind which taking to sell
        void judgeStops(int t) {
            takings = 0;
            upper = Row.at(worth, 0);
            lower = 1;
            long kept = 1;
            long outOf = 1;
            for (int taking = 1; taking < digits && taking < MOST_DIGITS; taking++) {
                kept *= 10 - t;
                outOf *= 10;
                long mean = Row.at(worth, taking) * kept;
                if (mean * lower > upper * outOf) {
                    takings = taking;
                    upper = mean;
                    lower = outOf;
                }
            }
        }
    }

    /** What was told of who had it ahead of whom. */
    static final class Sights {
        static final int MOST = 8;

        final int[] earlier = new int[MOST];
        final int[] later = new int[MOST];
        int count = 0;

        void add(int a, int b) {
            if (count < MOST) {
                Row.put(earlier, count, a);
                Row.put(later, count, b);
                count++;
            }
        }

        void copy(Sights from) {
            Row.copy(from.earlier, earlier);
            Row.copy(from.later, later);
            count = from.count;
        }

        /** Whether all are so, by the place that each of the five has in a row. */
        boolean hold(int[] place) {
            for (int i = 0; i < count && i < MOST; i++) {
                if (Row.at(place, Row.at(earlier, i)) >= Row.at(place, Row.at(later, i))) {
                    return false;
                }
            }
            return true;
        }
    }

    /** All rows in which five can have had a thing. */
    static final class Hands {
        static final int COUNT = 5;
        static final int ROWS = 120;

        final int[] place = new int[COUNT];
        final int[] times = new int[COUNT * COUNT];
        int row;
        int fitting;
        int question;
        int leftAtMost;

        /** The k-th row, rising: as a number, and the place of each of the five. */
        private void layOut(int k) {
            Row.fill(place, NONE);
            row = 0;
            int rest = k;
            int rowsEach = ROWS;
            for (int i = 0; i < COUNT; i++) {
                rowsEach = Math.max(1, rowsEach / (COUNT - i));
                int hand = freeHand(rest / rowsEach);
                rest %= rowsEach;
                Row.put(place, hand, i);
                row = row * 10 + hand;
            }
        }

        /** The least that has no place yet, when so many that have none are passed over. */
        private int freeHand(int passed) {
            int left = passed;
            for (int hand = 0; hand < COUNT; hand++) {
                if (Row.at(place, hand) == NONE) {
                    if (left == 0) {
                        return hand;
                    }
                    left--;
                }
            }
            return 0;
        }

        /** The i-th row by which all sights are so, or how many there are, for -1. */
        int fittingRow(Sights sights, int i) {
            int found = 0;
            for (int k = 0; k < ROWS; k++) {
                layOut(k);
                if (sights.hold(place)) {
                    if (found == i) {
                        return row;
                    }
                    found++;
                }
            }
            return i == -1 ? found : NONE;
        }

        void chooseQuestion(Sights sights) {
            countPairs(sights);
            question = NONE;
            leftAtMost = NONE;
            if (fitting == 0) {
                return;
            }
            for (int a = 0; a < COUNT; a++) {
                for (int b = a + 1; b < COUNT; b++) {
                    int ahead = Row.at(times, a * COUNT + b);
                    int left = Math.max(ahead, fitting - ahead);
                    if (question == NONE || left < leftAtMost) {
                        question = 10 * a + b;
                        leftAtMost = left;
                    }
                }
            }
        }

        private void countPairs(Sights sights) {
            Row.fill(times, 0);
            fitting = 0;
            for (int k = 0; k < ROWS; k++) {
                layOut(k);
                if (sights.hold(place)) {
                    fitting++;
                    countPairsOfRow();
                }
            }
        }

        private void countPairsOfRow() {
            for (int a = 0; a < COUNT; a++) {
                for (int b = a + 1; b < COUNT; b++) {
                    if (Row.at(place, a) < Row.at(place, b)) {
                        int pair = a * COUNT + b;
                        Row.put(times, pair, Row.at(times, pair) + 1);
                    }
                }
            }
        }
    }

    /** Things in rows, robbed by turns: which shelves are lost for who has the turn. */
    static final class Shelf {
        static final int ROWS = 5;
        static final int PLACES = 5;
        static final int SHELVES = 252;
        static final int CODES = 7776;

        // a shelf is told by how many are left in each row, a row above having no more of them;
        // one bit for each code of such a shelf, its lengths as digits to the base 6
        final int[] lost = new int[CODES / 32];
        final int[] length = new int[ROWS];
        boolean isKnown = false;

        int firstWinning(int h, int w) {
            if (!isKnown) {
                learn();
                isKnown = true;
            }
            for (int row = 0; row < ROWS; row++) {
                Row.put(length, row, row < h ? w : 0);
            }
            return leastWinning();
        }

        /** From the empty shelf on, each behind all that are left of it by some pointing. */
        private void learn() {
            Row.fill(lost, 0);
            Row.fill(length, 0);
            for (int i = 1; i < SHELVES; i++) {
                growToNext();
                if (leastWinning() == NONE) {
                    int code = codeAfter(ROWS, 0);
                    Row.put(lost, code / 32, Row.at(lost, code / 32) | 1 << code % 32);
                }
            }
        }

        private void growToNext() {
            for (int row = ROWS - 1; row >= 0; row--) {
                int most = row == 0 ? PLACES : Row.at(length, row - 1);
                if (Row.at(length, row) < most) {
                    Row.put(length, row, Row.at(length, row) + 1);
                    return;
                }
                Row.put(length, row, 0);
            }
        }

        // the empty shelf is not lost: who took the last of it has lost
        private int leastWinning() {
            for (int row = 0; row < ROWS; row++) {
                for (int place = 0; place < Row.at(length, row) && place < PLACES; place++) {
                    if (isLost(codeAfter(row, place))) {
                        return 10 * row + place;
                    }
                }
            }
            return NONE;
        }

        private boolean isLost(int code) {
            return (Row.at(lost, code / 32) >> code % 32 & 1) == 1;
        }

        /** The code of what is left when one has pointed there (no row: of all). */
        private int codeAfter(int row, int place) {
            int code = 0;
            for (int i = 0; i < ROWS; i++) {
                int left = i < row ? Row.at(length, i) : Math.min(place, Row.at(length, i));
                code = code * (PLACES + 1) + left;
            }
            return code;
        }
    }

    /** In how many ways thieves go to just so many doors. */
    static final class Chances {
        static final int MOST_THIEVES = 12;
        static final int MOST_DOORS = 10;

        final long[] ways = new long[MOST_THIEVES + 1];
        long allWays;

        long waysTo(int count) {
            return count >= 0 && count < ways.length ? ways[count] : 0;
        }

        void countWays(int n, int d) {
            for (int i = 0; i < ways.length; i++) {
                ways[i] = i == 0 ? 1 : 0;
            }
            allWays = 1;
            for (int thief = 0; thief < n; thief++) {
                allWays *= d;
                for (int i = ways.length - 1; i >= 0; i--) {
                    // to one of those that are gone to already, or to a new one
                    ways[i] = waysTo(i) * i + waysTo(i - 1) * (d - i + 1);
                }
            }
        }

        static long inLowestTerms(long upper, long lower, int part) {
            long common = greatestCommon(upper, lower);
            long number = part == 0 ? upper : lower;
            return common > 0 ? number / common : number;
        }

        private static long greatestCommon(long upper, long lower) {
            long a = upper;
            long b = lower;
            for (int i = 0; i < 100 && b != 0; i++) {
                long rest = a % b;
                a = b;
                b = rest;
            }
            return a;
        }
    }
}
