import java.util.ArrayList;
import java.util.HashMap;
import java.util.HashSet;
import java.util.List;
import java.util.Map;
import java.util.Set;
import java.util.regex.Matcher;
import java.util.regex.Pattern;

/** People, things and nights by the words of the document, written with no eye to the class. */
final class PlainModel {
    private static final Pattern ACT = Pattern.compile("[A-H](?:[a-l]|\\$[a-l][A-H]|\\*[a-l][A-H]|#)|\\.");
    // what can be the beginning of an act that wants more signs
    private static final Pattern BEGUN = Pattern.compile("[A-H](?:[$*][a-l]?)?");

    static final class Thing {
        int with;
        int taken;
        int worth = 5;
        int weight = 1;
    }

    static final class State {
        final List<Thing> things = new ArrayList<>();
        final Map<Integer, Integer> coin = new HashMap<>();
        final Set<Integer> shut = new HashSet<>();
        final Set<Set<Integer>> brothers = new HashSet<>();
        int night = 0;

        State() {
            for (int i = 0; i < 12; i++) {
                Thing thing = new Thing();
                thing.with = i % 8;
                things.add(thing);
            }
            for (int one = 0; one < 8; one++) {
                coin.put(one, 100);
            }
        }

        State(State of) {
            for (Thing was : of.things) {
                Thing thing = new Thing();
                thing.with = was.with;
                thing.taken = was.taken;
                thing.worth = was.worth;
                thing.weight = was.weight;
                things.add(thing);
            }
            coin.putAll(of.coin);
            shut.addAll(of.shut);
            brothers.addAll(of.brothers);
            night = of.night;
        }

        int price(int i) {
            Thing thing = things.get(i);
            return thing.taken == 9 ? 0 : thing.worth * (thing.taken - 1);
        }

        int howMany(int one) {
            int many = 0;
            for (Thing thing : things) {
                many += thing.with == one ? 1 : 0;
            }
            return many;
        }

        /** 0, or the least reason of all that there are. */
        int reason(String act) {
            if (act.equals(".")) {
                return night == 99 ? 6 : 0;
            }
            int one = act.charAt(0) - 'A';
            if (act.charAt(1) == '#') {
                return 0;
            }
            if (act.length() == 2) {
                Thing thing = things.get(act.charAt(1) - 'a');
                return thing.with == one ? 1 : shut.contains(thing.with) ? 2 : 0;
            }
            Thing thing = things.get(act.charAt(2) - 'a');
            int other = act.charAt(3) - 'A';
            if (thing.with != one) {
                return 1;
            }
            if (one == other) {
                return 3;
            }
            if (act.charAt(1) == '$') {
                if (thing.taken < 2) {
                    return 4;
                }
                return coin.get(other) < price(act.charAt(2) - 'a') ? 5 : 0;
            }
            return 0;
        }

        void perform(String act) {
            if (act.equals(".")) {
                night += 1;
                shut.clear();
                for (Thing thing : things) {
                    thing.taken = thing.taken == 1 ? 0 : thing.taken;
                }
                return;
            }
            int one = act.charAt(0) - 'A';
            if (act.charAt(1) == '#') {
                if (!shut.remove(one)) {
                    shut.add(one);
                }
            } else if (act.length() == 2) {
                Thing thing = things.get(act.charAt(1) - 'a');
                if (!brothers.contains(Set.of(one, thing.with))) {
                    thing.taken = thing.taken == 9 ? 9 : thing.taken + 1;
                }
                thing.with = one;
            } else {
                int other = act.charAt(3) - 'A';
                if (act.charAt(1) == '$') {
                    int price = price(act.charAt(2) - 'a');
                    coin.put(other, coin.get(other) - price);
                    coin.put(one, Math.min(9999, coin.get(one) + price));
                }
                Thing thing = things.get(act.charAt(2) - 'a');
                thing.with = other;
                thing.taken = 0;
            }
        }
    }

    State now = new State();
    final State[] images = new State[2];
    String pad = "";

    // of the pad, found anew by read()
    State behind;
    List<String> acts;
    int failed;
    int why;
    int sales;
    int firstSale;
    int firstSold;
    int cameTo;

    int fault() {
        int place = 0;
        Matcher act = ACT.matcher(pad);
        while (place < pad.length() && act.region(place, pad.length()).lookingAt()) {
            place = act.end();
        }
        if (place == pad.length()) {
            return -6;
        }
        Matcher begun = BEGUN.matcher(pad);
        return begun.region(place, pad.length()).lookingAt() ? begun.end() : place;
    }

    /** 0, or -5 for a fault, -3 if some act can not be. */
    int read() {
        if (fault() != -6) {
            return -5;
        }
        acts = new ArrayList<>();
        Matcher act = ACT.matcher(pad);
        while (act.find()) {
            acts.add(act.group());
        }
        behind = new State(now);
        failed = why = firstSale = firstSold = -6;
        sales = cameTo = 0;
        for (int i = 0; i < acts.size(); i++) {
            String text = acts.get(i);
            int reason = behind.reason(text);
            if (reason != 0) {
                failed = i;
                why = reason;
                return -3;
            }
            if (text.contains("$")) {
                int thing = text.charAt(2) - 'a';
                firstSale = sales == 0 ? i : firstSale;
                firstSold = sales == 0 ? thing : firstSold;
                sales++;
                cameTo += behind.price(thing);
            }
            behind.perform(text);
        }
        return 0;
    }

    int year(int seed, int m, int what) {
        State year = new State(now);
        int x = seed;
        for (int i = 0; i < m; i++) {
            x = (75 * x + 74) % 65537;
            int z = x / 64;
            String one = String.valueOf((char) ('A' + x % 8));
            String thing = String.valueOf((char) ('a' + z % 12));
            String other = String.valueOf((char) ('A' + z / 12 % 8));
            String take = one + thing;
            String[] kinds = {take, take, take, one + "$" + thing + other, one + "*" + thing + other, one + "#", ".", "."};
            String act = kinds[x / 8 % 8];
            if (year.reason(act) == 0) {
                year.perform(act);
            }
        }
        int twice = 0;
        for (Thing thing : year.things) {
            twice += thing.taken >= 2 ? 1 : 0;
        }
        return what == 0 ? twice : what == 1 ? year.coin.get(0) : year.howMany(0);
    }
}
