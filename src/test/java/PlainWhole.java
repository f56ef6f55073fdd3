import java.math.BigInteger;
import java.util.ArrayList;
import java.util.Arrays;
import java.util.HashMap;
import java.util.HashSet;
import java.util.List;
import java.util.Map;
import java.util.Set;

/** What each call is due to answer, by the words of the document, with no eye to the class. */
final class PlainWhole {
    private static final int UNKNOWN = -1;
    private static final int OUTSIDE = -2;
    private static final int STATE = -3;
    private static final int FULL = -4;
    private static final int NONE = -6;
    private static final long GONE = -1000000000000000000L;

    private static final Map<String, Boolean> SHELVES = new HashMap<>();
    private static final Map<String, Integer> CAREERS = new HashMap<>();
    private static final List<String> ROWS = new ArrayList<>();

    static {
        allRows("", ROWS);
    }

    final PlainModel plain = new PlainModel();
    private List<String> sights = new ArrayList<>();
    private final List<List<String>> keptSights = new ArrayList<>(Arrays.asList(null, null));

    long due(String name, int... a) {
        switch (name) {
            case "thing": return thing(a[0], a[1], a[2], a[3], a[4]);
            case "one": return one(a[0], a[1], a[2]);
            case "brothers": return brothers(a[0], a[1], a[2] == 1);
            case "say": return say(a[0]);
            case "wipe": return wipe();
            case "fault": return plain.fault();
            case "judge": return judge(a[0]);
            case "behind": return behind(a[0], a[1]);
            case "purse": return purse(a[0], a[1]);
            case "sold": return sold(a[0]);
            case "done": return done();
            case "sack": return sack(a[0], a[1], a[2]);
            case "careers": return careers(a[0], a[1]);
            case "ring": return ring(a[0], a[1], a[2], a[3]);
            case "stop": return stop(a[0], a[1], a[2], a[3]);
            case "sells": return sells(a[0], a[1], a[2]);
            case "ahead": return ahead(a[0], a[1]);
            case "forget": return forget();
            case "fits": return fits(a[0]);
            case "ask": return ask(a[0]);
            case "shelf": return shelf(a[0], a[1], a[2]);
            case "doors": return doors(a[0], a[1], a[2], a[3]);
            case "year": return year(a[0], a[1], a[2]);
            case "image": return image(a[0]);
            case "restore": return restore(a[0]);
            case "told": return told(a[0]);
            default: throw new IllegalArgumentException(name);
        }
    }

    private static boolean not(int number, int least, int most) {
        return number < least || number > most;
    }

    // ---- 1

    private int thing(int i, int one, int taken, int worth, int weight) {
        if (not(i, 0, 11) || not(one, 0, 7)) {
            return UNKNOWN;
        }
        if (not(taken, 0, 9) || not(worth, 0, 99) || not(weight, 1, 9)) {
            return OUTSIDE;
        }
        PlainModel.Thing thing = plain.now.things.get(i);
        int was = thing.with;
        thing.with = one;
        thing.taken = taken;
        thing.worth = worth;
        thing.weight = weight;
        return was;
    }

    private int one(int one, int coin, int door) {
        if (not(one, 0, 7)) {
            return UNKNOWN;
        }
        if (not(coin, 0, 9999) || not(door, 0, 1)) {
            return OUTSIDE;
        }
        plain.now.shut.remove(one);
        if (door == 0) {
            plain.now.shut.add(one);
        }
        return plain.now.coin.put(one, coin);
    }

    private int brothers(int one, int other, boolean is) {
        if (not(one, 0, 7) || not(other, 0, 7) || one == other) {
            return UNKNOWN;
        }
        Set<Integer> two = Set.of(one, other);
        if (is) {
            plain.now.brothers.add(two);
        } else {
            plain.now.brothers.remove(two);
        }
        return plain.now.brothers.size();
    }

    private int say(int sign) {
        if (not(sign, 33, 126)) {
            return OUTSIDE;
        }
        if (plain.pad.length() == 60) {
            return FULL;
        }
        plain.pad += (char) sign;
        return plain.pad.length();
    }

    private int wipe() {
        int signs = plain.pad.length();
        plain.pad = "";
        return signs;
    }

    // ---- 2

    private int judge(int what) {
        if (not(what, 0, 2)) {
            return OUTSIDE;
        }
        int refusal = plain.read();
        if (refusal == 0) {
            return what == 2 ? plain.sales : NONE;
        }
        boolean told = refusal == STATE && what < 2;
        return !told ? refusal : what == 0 ? plain.failed : plain.why;
    }

    private int behind(int i, int what) {
        if (not(i, 0, 11)) {
            return UNKNOWN;
        }
        if (not(what, 0, 2)) {
            return OUTSIDE;
        }
        int refusal = plain.read();
        if (refusal != 0) {
            return refusal;
        }
        PlainModel.Thing thing = plain.behind.things.get(i);
        int price = thing.taken < 2 ? 0 : plain.behind.price(i);
        return what == 0 ? thing.with : what == 1 ? thing.taken : price;
    }

    private int purse(int one, int what) {
        if (not(one, 0, 7)) {
            return UNKNOWN;
        }
        if (not(what, 0, 2)) {
            return OUTSIDE;
        }
        int refusal = plain.read();
        if (refusal != 0) {
            return refusal;
        }
        int door = plain.behind.shut.contains(one) ? 0 : 1;
        return what == 0 ? plain.behind.coin.get(one) : what == 1 ? plain.behind.howMany(one) : door;
    }

    private int sold(int what) {
        if (not(what, 0, 2)) {
            return OUTSIDE;
        }
        int refusal = plain.read();
        if (refusal != 0) {
            return refusal;
        }
        return what == 0 ? plain.firstSale : what == 1 ? plain.firstSold : plain.cameTo;
    }

    private int done() {
        int refusal = plain.read();
        if (refusal != 0) {
            return refusal;
        }
        plain.now = plain.behind;
        plain.pad = "";
        return plain.acts.size();
    }

    private int sack(int one, int c, int what) {
        if (not(one, 0, 7)) {
            return UNKNOWN;
        }
        if (not(c, 0, 99) || not(what, 0, 1)) {
            return OUTSIDE;
        }
        int most = 0;
        int which = 0;
        for (int set = 1; set < 4096; set++) {
            int worth = 0;
            int weight = 0;
            for (int i = 0; i < 12 && weight <= c; i++) {
                if ((set >> i & 1) == 1) {
                    PlainModel.Thing thing = plain.now.things.get(i);
                    worth += thing.worth;
                    weight += thing.with == one ? 1000 : thing.weight;
                }
            }
            if (weight <= c && worth > most) {
                most = worth;
                which = set;
            }
        }
        return what == 0 ? most : which;
    }

    // ---- 3

    private int careers(int n, int set) {
        if (not(n, 1, 8) || not(set, 0, 4095)) {
            return OUTSIDE;
        }
        int twice = 0;
        int once = 0;
        for (int i = 0; i < 12; i++) {
            if ((set >> i & 1) == 1) {
                twice += plain.now.things.get(i).taken == 0 ? 1 : 0;
                once += plain.now.things.get(i).taken == 1 ? 1 : 0;
            }
        }
        return nights(n, twice, once);
    }

    /** So many things want two takings, so many one: each way to spend the first night is tried. */
    private static int nights(int n, int twice, int once) {
        if (twice + once == 0) {
            return 0;
        }
        String key = n + " " + twice + " " + once;
        if (!CAREERS.containsKey(key)) {
            int fewest = Integer.MAX_VALUE;
            for (int a = 0; a <= Math.min(n, twice); a++) {
                for (int b = a == 0 ? 1 : 0; b <= Math.min(n - a, once); b++) {
                    fewest = Math.min(fewest, 1 + nights(n, twice - a, once + a - b));
                }
            }
            CAREERS.put(key, fewest);
        }
        return CAREERS.get(key);
    }

    private int ring(int row, int one, int m, int what) {
        if (not(one, 0, 7)) {
            return UNKNOWN;
        }
        if (row < 0 || !String.format("%08d", row).matches("[0-7]{8}") || not(m, 0, 999999999) || not(what, 0, 2)) {
            return OUTSIDE;
        }
        String digits = String.format("%08d", row);
        List<Integer> path = new ArrayList<>();
        for (int i = one; !path.contains(i); i = digits.charAt(i) - '0') {
            path.add(i);
        }
        int again = path.indexOf(digits.charAt(path.get(path.size() - 1)) - '0');
        if (what == 0) {
            return behindNights(digits, one, m);
        }
        return what == 1 ? path.size() : path.size() - again;
    }

    /** By rows of 1, 2, 4 and so on nights, one behind the other. */
    private static int behindNights(String digits, int one, int m) {
        int[] row = new int[8];
        for (int i = 0; i < 8; i++) {
            row[i] = digits.charAt(i) - '0';
        }
        int who = one;
        for (int left = m; left > 0; left /= 2) {
            who = left % 2 == 1 ? row[who] : who;
            int[] twice = new int[8];
            for (int i = 0; i < 8; i++) {
                twice[i] = row[row[i]];
            }
            row = twice;
        }
        return who;
    }

    private static boolean isNoCareer(int row, int n, int t) {
        return not(n, 1, 9) || row < 0 || String.valueOf(row).length() > n || not(t, 0, 10);
    }

    private static long stop(int row, int n, int t, int part) {
        if (isNoCareer(row, n, t) || not(part, 0, 1)) {
            return GONE + OUTSIDE;
        }
        long[] best = bestBehind(String.format("%0" + n + "d", row), t);
        return lowest(BigInteger.valueOf(best[0]), BigInteger.TEN.pow(9), part);
    }

    private static int sells(int row, int n, int t) {
        if (isNoCareer(row, n, t)) {
            return OUTSIDE;
        }
        String digits = String.format("%0" + n + "d", row);
        long[] best = bestBehind(digits, t);
        int taking = 0;
        while (billion(digits, taking) < best[taking]) {
            taking++;
        }
        return taking;
    }

    private static long billion(String digits, int i) {
        return (digits.charAt(i) - '0') * 1000000000L;
    }

    /** From the last taking back: sell, or go on if that is better; each in parts of a billion. */
    private static long[] bestBehind(String digits, int t) {
        long[] best = new long[digits.length()];
        for (int i = digits.length() - 1; i >= 0; i--) {
            best[i] = billion(digits, i);
            if (i + 1 < digits.length()) {
                best[i] = Math.max(best[i], best[i + 1] / 10 * (10 - t));
            }
        }
        return best;
    }

    private static long lowest(BigInteger upper, BigInteger lower, int part) {
        return (part == 0 ? upper : lower).divide(upper.gcd(lower)).longValueExact();
    }

    // ---- 4

    private int ahead(int a, int b) {
        if (not(a, 0, 4) || not(b, 0, 4) || a == b) {
            return OUTSIDE;
        }
        if (sights.size() == 8) {
            return FULL;
        }
        sights.add("" + a + b);
        return sights.size();
    }

    private int forget() {
        int many = sights.size();
        sights.clear();
        return many;
    }

    private static void allRows(String begun, List<String> rows) {
        if (begun.length() == 5) {
            rows.add(begun);
        }
        for (char hand = '0'; hand < '5'; hand++) {
            if (begun.indexOf(hand) < 0) {
                allRows(begun + hand, rows);
            }
        }
    }

    private static boolean isSo(String row, String sight) {
        return row.indexOf(sight.charAt(0)) < row.indexOf(sight.charAt(1));
    }

    private List<String> fitting() {
        List<String> rows = new ArrayList<>(ROWS);
        for (String sight : sights) {
            rows.removeIf(row -> !isSo(row, sight));
        }
        return rows;
    }

    private int fits(int i) {
        List<String> rows = fitting();
        if (i == -1) {
            return rows.size();
        }
        return i >= 0 && i < rows.size() ? Integer.parseInt(rows.get(i)) : NONE;
    }

    private int ask(int what) {
        if (not(what, 0, 1)) {
            return OUTSIDE;
        }
        List<String> rows = fitting();
        int[] best = {NONE, NONE};
        for (int two = 1; two < 35 && !rows.isEmpty(); two++) {
            String sight = "" + two / 10 + two % 10;
            if (two % 10 < 5 && two / 10 < two % 10) {
                int so = (int) rows.stream().filter(row -> isSo(row, sight)).count();
                int left = Math.max(so, rows.size() - so);
                best = best[0] == NONE || left < best[1] ? new int[] {two, left} : best;
            }
        }
        return best[what];
    }

    private static int shelf(int h, int w, int what) {
        if (not(h, 1, 5) || not(w, 1, 5) || not(what, 0, 1)) {
            return OUTSIDE;
        }
        Set<Integer> there = new HashSet<>();
        for (int thing = 0; thing < 50; thing++) {
            if (thing / 10 < h && thing % 10 < w) {
                there.add(thing);
            }
        }
        int first = firstWinning(there);
        return what == 1 ? first : first == NONE ? 0 : 1;
    }

    private static int firstWinning(Set<Integer> there) {
        for (int thing = 1; thing < 50; thing++) {
            if (there.contains(thing) && !canWin(left(there, thing))) {
                return thing;
            }
        }
        return NONE;
    }

    private static boolean canWin(Set<Integer> there) {
        String key = there.stream().sorted().toList().toString();
        if (!SHELVES.containsKey(key)) {
            SHELVES.put(key, firstWinning(there) != NONE);
        }
        return SHELVES.get(key);
    }

    private static Set<Integer> left(Set<Integer> there, int thing) {
        Set<Integer> left = new HashSet<>(there);
        left.removeIf(other -> other / 10 >= thing / 10 && other % 10 >= thing % 10);
        return left;
    }

    private static long doors(int n, int d, int what, int part) {
        if (not(n, 0, 12) || not(d, 1, 10) || not(what, 0, 1) || not(part, 0, 1)) {
            return GONE + OUTSIDE;
        }
        BigInteger ways = BigInteger.ZERO;
        if (what == 0) {
            ways = BigInteger.ONE;
            for (int i = 0; i < n; i++) {
                ways = ways.multiply(BigInteger.valueOf(Math.max(0, d - i)));
            }
        } else {
            // all that keep to a set of doors, those of fewer doors taken off by turns
            for (int set = 0; set < 1 << d; set++) {
                BigInteger kept = BigInteger.valueOf(Integer.bitCount(set)).pow(n);
                ways = (d - Integer.bitCount(set)) % 2 == 0 ? ways.add(kept) : ways.subtract(kept);
            }
        }
        return lowest(ways, BigInteger.valueOf(d).pow(n), part);
    }

    private int year(int seed, int m, int what) {
        return not(seed, 0, 9999) || not(m, 1, 99) || not(what, 0, 2) ? OUTSIDE : plain.year(seed, m, what);
    }

    private int image(int k) {
        if (not(k, 0, 1)) {
            return OUTSIDE;
        }
        plain.images[k] = new PlainModel.State(plain.now);
        keptSights.set(k, new ArrayList<>(sights));
        return 1;
    }

    private int restore(int k) {
        if (not(k, 0, 1)) {
            return OUTSIDE;
        }
        if (plain.images[k] == null) {
            return STATE;
        }
        plain.now = new PlainModel.State(plain.images[k]);
        sights = new ArrayList<>(keptSights.get(k));
        return 1;
    }

    private int told(int what) {
        if (what >= 100 && what < 220 && what % 10 < 4) {
            PlainModel.Thing thing = plain.now.things.get(what / 10 - 10);
            return new int[] {thing.with, thing.taken, thing.worth, thing.weight}[what % 10];
        }
        if (what >= 10 && what < 18) {
            return plain.now.coin.get(what - 10);
        }
        if (what >= 20 && what < 28) {
            int bits = 0;
            for (Set<Integer> two : plain.now.brothers) {
                for (int other : two) {
                    bits |= two.contains(what - 20) && other != what - 20 ? 1 << other : 0;
                }
            }
            return bits;
        }
        int ajar = 255;
        for (int one : plain.now.shut) {
            ajar -= 1 << one;
        }
        return what < 0 || what > 3 ? OUTSIDE
            : new int[] {plain.pad.length(), ajar, plain.now.night, sights.size()}[what];
    }
}
