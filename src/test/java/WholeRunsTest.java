import java.util.HashMap;
import java.util.Map;
import java.util.Random;

/** Runs of 512 calls, the most that is promised, of all the calls in turn beside a plain telling of each. */
public final class WholeRunsTest {
    private static final int CALLS = 512;
    private static final int RUNS = 500;

    /** Each call, how often it is drawn, and the least and the most that each argument may be. */
    private static final Object[][] FACE = {
        {"thing", 14, 0, 11, 0, 7, 0, 9, 0, 99, 1, 9}, {"one", 8, 0, 7, 0, 9999, 0, 1},
        {"brothers", 5, 0, 7, 0, 7, 0, 1}, {"say", 2, 33, 126}, {"wipe", 2}, {"fault", 5},
        {"judge", 6, 0, 2}, {"behind", 8, 0, 11, 0, 2}, {"purse", 8, 0, 7, 0, 2}, {"sold", 6, 0, 2},
        {"done", 5}, {"sack", 5, 0, 7, 0, 99, 0, 1}, {"careers", 5, 1, 8, 0, 4095},
        {"ring", 5, 0, 77777777, 0, 7, 0, 999999999, 0, 2}, {"stop", 5, 0, 999999999, 1, 9, 0, 10, 0, 1},
        {"sells", 5, 0, 999999999, 1, 9, 0, 10}, {"ahead", 5, 0, 4, 0, 4},
        {"forget", 1}, {"fits", 5, -1, 119}, {"ask", 5, 0, 1}, {"shelf", 5, 1, 5, 1, 5, 0, 1},
        {"doors", 5, 0, 12, 1, 10, 0, 1, 0, 1}, {"year", 5, 0, 9999, 1, 99, 0, 2}, {"image", 2, 0, 1},
        {"restore", 2, 0, 1}, {"told", 5, 0, 213}};

    private final Random random;
    // such a run comes to the last night
    private final boolean isLong;
    private final TwiceStolen x = new TwiceStolen();
    private final PlainWhole whole = new PlainWhole();
    private final Map<String, Integer> answered = new HashMap<>();
    private String signsToCome = "";
    private int calls = 0;

    private WholeRunsTest(int seed) {
        random = new Random(seed);
        isLong = seed % 5 == 0;
    }

    public static void main(String[] args) {
        Due.sentence("An object is used for at most 512 calls after it has been made");
        Map<String, Integer> answered = new HashMap<>();
        for (int seed = 0; seed < RUNS; seed++) {
            WholeRunsTest run = new WholeRunsTest(seed);
            run.live();
            run.tellAll();
            Due.due("calls of run " + seed, run.calls, CALLS);
            run.answered.forEach((name, many) -> answered.merge(name, many, Integer::sum));
        }
        for (Object[] call : FACE) {
            Due.due(call[0] + " was often not refused", answered.getOrDefault(call[0], 0) > RUNS ? 1 : 0, 1);
        }
        Due.end();
    }

    private void live() {
        int all = 0;
        for (Object[] call : FACE) {
            all += (Integer) call[1];
        }
        while (calls < CALLS - 72) {
            if (signsToCome.isEmpty() && random.nextInt(5) == 0) {
                beginAct();
                continue;
            }
            if (!signsToCome.isEmpty() && random.nextInt(8) > 0) {
                call("say", signsToCome.charAt(0));
                signsToCome = signsToCome.substring(1);
            } else {
                draw(random.nextInt(all));
            }
        }
    }

    private void draw(int drawn) {
        int left = drawn;
        for (Object[] call : FACE) {
            left -= (Integer) call[1];
            if (left < 0) {
                call((String) call[0], arguments(call));
                return;
            }
        }
    }

    private int[] arguments(Object[] call) {
        int[] numbers = new int[call.length / 2 - 1];
        for (int i = 0; i < numbers.length; i++) {
            numbers[i] = number((Integer) call[2 * i + 2], (Integer) call[2 * i + 3]);
        }
        boolean isOdd = random.nextInt(20) == 0;
        if (call[0].equals("ring") && !isOdd) {
            numbers[0] = Integer.parseInt(Integer.toOctalString(random.nextInt(1 << 24)));
            numbers[2] = random.nextBoolean() ? random.nextInt(12) : numbers[2];
        } else if ((call[0].equals("stop") || call[0].equals("sells")) && !isOdd) {
            numbers[0] %= (int) Math.pow(10, Math.max(1, Math.min(9, numbers[1])));
        } else if (call[0].equals("brothers")) {
            numbers[2] = random.nextInt(3) > 0 ? 1 : 0;
        } else if (call[0].equals("fits") && !isOdd) {
            numbers[0] = random.nextInt(12) - 1;
        } else if (call[0].equals("told") && !isOdd) {
            numbers[0] = random.nextInt(48) % 10 + 10 * random.nextInt(22);
        }
        return numbers;
    }

    private int number(int least, int most) {
        switch (random.nextInt(40)) {
            case 0: return least - 1 - random.nextInt(2);
            case 1: return most + 1 + random.nextInt(2);
            case 2: return random.nextBoolean() ? Integer.MIN_VALUE : Integer.MAX_VALUE;
            case 3: case 4: return least;
            case 5: case 6: return most;
            default: return least + random.nextInt(most - least + 1);
        }
    }

    // a pad that can not be stays so till it is wiped
    private void beginAct() {
        boolean can = whole.plain.read() == 0;
        if (!can && random.nextInt(3) > 0) {
            call("wipe");
        } else if (isLong && whole.plain.pad.length() > 30) {
            call("done");
        } else if (isLong && whole.plain.now.night < 99 && random.nextInt(4) == 0) {
            signsToCome = ".".repeat(50);
        } else {
            signsToCome = act(can ? whole.plain.behind : whole.plain.now);
        }
    }

    // most acts are made to fit what is behind the pad, or few could be
    private String act(PlainModel.State state) {
        int i = random.nextInt(12);
        for (int tries = 0; tries < 4 && state.things.get(i).taken < 2; tries++) {
            i = random.nextInt(12);
        }
        char thing = (char) ('a' + i);
        char who = random.nextInt(12) > 0 ? (char) ('A' + state.things.get(i).with) : one();
        switch (random.nextInt(14)) {
            case 0: case 1: case 2: return who + "$" + thing + one();
            case 3: return who + "*" + thing + one();
            case 4: return one() + "#";
            case 5: case 6: return ".";
            case 7: return ".".repeat(1 + random.nextInt(8));
            case 8: return random.nextInt(6) == 0 ? "" + (char) (33 + random.nextInt(94)) : "";
            default: return "" + one() + thing + one() + thing;
        }
    }

    private char one() {
        return (char) ('A' + random.nextInt(8));
    }

    private void call(String name, int... numbers) {
        long want = whole.due(name, numbers);
        Due.due(Calls.text(name, numbers), Calls.answer(x, name, numbers), want);
        answered.merge(name, want >= 0 ? 1 : 0, Integer::sum);
        calls++;
    }

    /** The last 72 calls. */
    private void tellAll() {
        for (int what = 0; what < 4; what++) {
            call("told", what);
        }
        for (int one = 0; one < 8; one++) {
            call("told", 10 + one);
            call("told", 20 + one);
        }
        for (int thing = 0; thing < 12; thing++) {
            for (int what = 0; what < 4; what++) {
                call("told", 100 + 10 * thing + what);
            }
        }
        call("fits", -1);
        call("fits", 0);
        call("fault");
        call("done");
    }
}
