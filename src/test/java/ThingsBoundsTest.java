/** Section 1 up to THE FAULT, sentence by sentence: the last that is allowed, the first that is not. */
public final class ThingsBoundsTest {
    private static final int UNKNOWN = -1;
    private static final int OUTSIDE = -2;
    private static final int FULL = -4;
    private static final int NONE = -6;

    public static void main(String[] args) {
        allUnstolen();
        fiveHundredCalls();
        numbersOfThings();
        lettersOfThings();
        numbersOfOnes();
        lettersOfOnes();
        withWhomAtFirst();
        takenTimes();
        worths();
        weights();
        coins();
        doors();
        brothersOrNot();
        brothersOfAll();
        firstNight();
        prices();
        padOfSixty();
        codesOfSigns();
        wiping();
        firstSignThatCanNotStand();
        moreMustCome();
        faultsOfAFullPad();
        emptyPad();
        aSaidSignChangesTheFault();
        Due.end();
    }

    private static int fault(String text) {
        return Due.text(new TwiceStolen(), text).fault();
    }

    private static void allUnstolen() {
        Due.sentence("All unstolen.");
        TwiceStolen first = new TwiceStolen();
        first.thing(0, 7, 9, 99, 9);
        first.one(0, 0, 0);
        first.brothers(0, 7, true);
        first.ahead(0, 4);
        first.image(0);
        first.say('.');
        TwiceStolen x = new TwiceStolen();
        for (int thing = 0; thing <= 11; thing++) {
            Due.due("thing " + thing, x.behind(thing, 1), 0);
            Due.due("it has no price", x.behind(thing, 2), 0);
        }
        Due.due("all want two takings", x.careers(1, 4095), 24);
        Due.due("doors of another are no matter", x.told(1), 255);
        Due.due("signs of another", x.told(0), 0);
        Due.due("sights of another", x.told(3), 0);
        Due.due("images of another", x.restore(0), -3);
    }

    private static void fiveHundredCalls() {
        Due.sentence("An object is used for at most 512 calls after it has been made");
        TwiceStolen x = new TwiceStolen();
        for (int call = 1; call < 512; call++) {
            Due.due("call " + call, x.one(5, call, 1), call == 1 ? 100 : call - 1);
        }
        Due.due("call 512", x.told(15), 511);
    }

    private static void numbersOfThings() {
        Due.sentence("THINGS 0 to 11 (a to l)");
        TwiceStolen x = new TwiceStolen();
        for (int thing = 0; thing <= 11; thing++) {
            Due.due("thing " + thing, x.thing(thing, thing % 8, 0, thing + 1, 1), thing % 8);
            Due.due("behind " + thing, x.behind(thing, 0), thing % 8);
        }
        for (int thing = 0; thing <= 11; thing++) {
            Due.due("each is one of its own, " + thing, x.told(102 + 10 * thing), thing + 1);
        }
        Due.due("thing -1", x.thing(-1, 0, 0, 0, 1), UNKNOWN);
        Due.due("thing 12", x.thing(12, 0, 0, 0, 1), UNKNOWN);
        Due.due("behind -1", x.behind(-1, 0), UNKNOWN);
        Due.due("behind 12", x.behind(12, 0), UNKNOWN);
        Due.due("told 9 is none of thing -1", x.told(93), OUTSIDE);
        Due.due("told 220 is none of thing 12", x.told(220), OUTSIDE);
    }

    private static void lettersOfThings() {
        Due.sentence("THINGS 0 to 11 (a to l)");
        for (int thing = 0; thing <= 11; thing++) {
            char letter = (char) ('a' + thing);
            char other = (char) ('A' + (thing + 1) % 8);
            TwiceStolen x = Due.text(new TwiceStolen(), "" + other + letter);
            Due.due("letter " + letter + " is thing " + thing, x.behind(thing, 0), other - 'A');
            Due.due("it alone went", x.purse(other - 'A', 1), (thing + 1) % 8 < 4 ? 3 : 2);
        }
        for (String ahead : new String[] {"A", "A$", "A*"}) {
            Due.due(ahead + "a", fault(ahead + "a") == ahead.length() ? 1 : 0, 0);
            Due.due(ahead + "l", fault(ahead + "l") == ahead.length() ? 1 : 0, 0);
            Due.due(ahead + "`", fault(ahead + "`"), ahead.length());
            Due.due(ahead + "m", fault(ahead + "m"), ahead.length());
        }
    }

    private static void numbersOfOnes() {
        Due.sentence("are each with a ONE 0 to 7 (A to H;");
        TwiceStolen x = new TwiceStolen();
        for (int one = 0; one <= 7; one++) {
            Due.due("thing with " + one, x.thing(0, one, 0, 5, 1), Math.max(0, one - 1));
            Due.due("told with " + one, x.told(100), one);
            Due.due("one " + one, x.one(one, 200 + one, 1), 100);
            Due.due("purse of " + one, x.purse(one, 0), 200 + one);
            Due.due("sack of " + one, x.sack(one, 0, 0), 0);
            Due.due("ring of " + one, x.ring(1234567, one, 0, 0), one);
        }
        for (int nobody : new int[] {-1, 8}) {
            Due.due("thing with " + nobody, x.thing(0, nobody, 0, 5, 1), UNKNOWN);
            Due.due("one " + nobody, x.one(nobody, 0, 1), UNKNOWN);
            Due.due("brothers " + nobody, x.brothers(nobody, 0, true), UNKNOWN);
            Due.due("brothers 0 and " + nobody, x.brothers(0, nobody, true), UNKNOWN);
            Due.due("purse of " + nobody, x.purse(nobody, 0), UNKNOWN);
            Due.due("sack of " + nobody, x.sack(nobody, 0, 0), UNKNOWN);
            Due.due("ring of " + nobody, x.ring(1234567, nobody, 0, 0), UNKNOWN);
        }
        Due.due("it is with 7 still", x.told(100), 7);
    }

    private static void lettersOfOnes() {
        Due.sentence("are each with a ONE 0 to 7 (A to H;");
        for (int one = 0; one <= 7; one++) {
            char letter = (char) ('A' + one);
            TwiceStolen x = Due.text(new TwiceStolen(), letter + "#");
            for (int other = 0; other <= 7; other++) {
                Due.due(letter + "# shuts " + other, x.purse(other, 2), other == one ? 0 : 1);
            }
            x = new TwiceStolen();
            x.thing(0, (one + 1) % 8, 0, 5, 1);
            Due.text(x, "" + (char) ('A' + (one + 1) % 8) + "*a" + letter);
            Due.due("given to " + letter, x.behind(0, 0), one);
        }
        for (String ahead : new String[] {"", "A$a", "A*a"}) {
            Due.due(ahead + "A", fault(ahead + "A") == ahead.length() ? 1 : 0, 0);
            Due.due(ahead + "H", fault(ahead + "H") == ahead.length() ? 1 : 0, 0);
            Due.due(ahead + "@", fault(ahead + "@"), ahead.length());
            Due.due(ahead + "I", fault(ahead + "I"), ahead.length());
        }
    }

    private static void withWhomAtFirst() {
        Due.sentence("at first that of its number left over by 8)");
        TwiceStolen x = new TwiceStolen();
        Due.due("the last that is with its own number", x.told(170), 7);
        Due.due("the first behind it is with 0 again", x.told(180), 0);
        Due.due("the last", x.told(210), 3);
        for (int one = 0; one <= 7; one++) {
            Due.due("things of " + one, x.purse(one, 1), one <= 3 ? 2 : 1);
        }
    }

    private static void takenTimes() {
        Due.sentence("were TAKEN 0 to 9 times (0 at first)");
        TwiceStolen x = new TwiceStolen();
        for (int thing = 0; thing <= 11; thing++) {
            Due.due("at first", x.told(101 + 10 * thing), 0);
        }
        Due.due("9 times", x.thing(4, 4, 9, 5, 1), 4);
        Due.due("told 9", x.told(141), 9);
        Due.due("10 times", x.thing(4, 4, 10, 5, 1), OUTSIDE);
        Due.due("told 9", x.told(141), 9);
        Due.due("0 times", x.thing(4, 4, 0, 5, 1), 4);
        Due.due("told 0", x.told(141), 0);
        Due.due("-1 times", x.thing(4, 4, -1, 5, 1), OUTSIDE);
        Due.due("told 0", x.told(141), 0);
    }

    private static void worths() {
        Due.sentence("are WORTH 0 to 99 (5 at first)");
        TwiceStolen x = new TwiceStolen();
        for (int thing = 0; thing <= 11; thing++) {
            Due.due("at first", x.told(102 + 10 * thing), 5);
        }
        Due.due("worth 99", x.thing(4, 4, 0, 99, 1), 4);
        Due.due("told 99", x.told(142), 99);
        Due.due("worth 100", x.thing(4, 4, 0, 100, 1), OUTSIDE);
        Due.due("told 99", x.told(142), 99);
        Due.due("worth 0", x.thing(4, 4, 0, 0, 1), 4);
        Due.due("told 0", x.told(142), 0);
        Due.due("worth -1", x.thing(4, 4, 0, -1, 1), OUTSIDE);
        Due.due("told 0", x.told(142), 0);
    }

    private static void weights() {
        Due.sentence("of WEIGHT 1 to 9 (1 at first)");
        TwiceStolen x = new TwiceStolen();
        for (int thing = 0; thing <= 11; thing++) {
            Due.due("at first", x.told(103 + 10 * thing), 1);
        }
        Due.due("weight 9", x.thing(4, 4, 0, 5, 9), 4);
        Due.due("told 9", x.told(143), 9);
        Due.due("weight 10", x.thing(4, 4, 0, 5, 10), OUTSIDE);
        Due.due("told 9", x.told(143), 9);
        Due.due("weight 1", x.thing(4, 4, 0, 5, 1), 4);
        Due.due("told 1", x.told(143), 1);
        Due.due("weight 0", x.thing(4, 4, 0, 5, 0), OUTSIDE);
        Due.due("told 1", x.told(143), 1);
    }

    private static void coins() {
        Due.sentence("ONES have COIN (0 to 9999; 100 at first)");
        TwiceStolen x = new TwiceStolen();
        for (int one = 0; one <= 7; one++) {
            Due.due("at first", x.told(10 + one), 100);
        }
        Due.due("coin 9999", x.one(3, 9999, 1), 100);
        Due.due("told 9999", x.told(13), 9999);
        Due.due("coin 10000", x.one(3, 10000, 1), OUTSIDE);
        Due.due("told 9999", x.told(13), 9999);
        Due.due("coin 0", x.one(3, 0, 1), 9999);
        Due.due("told 0", x.told(13), 0);
        Due.due("coin -1", x.one(3, -1, 1), OUTSIDE);
        Due.due("told 0", x.told(13), 0);
        Due.due("he had none", x.one(3, 7, 1), 0);
    }

    private static void doors() {
        Due.sentence("and a DOOR that is ajar (at first), or shut.");
        TwiceStolen x = new TwiceStolen();
        Due.due("all are ajar at first", x.told(1), 255);
        for (int one = 0; one <= 7; one++) {
            Due.due("shut", x.one(one, 100, 0), 100);
            Due.due("all up to this are shut", x.told(1), 255 - ((2 << one) - 1));
        }
        Due.due("door 2", x.one(3, 100, 2), OUTSIDE);
        Due.due("door -1", x.one(3, 100, -1), OUTSIDE);
        Due.due("none is ajar", x.told(1), 0);
        Due.due("shut again", x.one(3, 100, 0), 100);
        Due.due("none is ajar", x.told(1), 0);
        Due.due("ajar", x.one(3, 100, 1), 100);
        Due.due("his alone", x.told(1), 8);
        Due.due("ajar again", x.one(3, 100, 1), 100);
        Due.due("his alone", x.told(1), 8);
    }

    private static void brothersOrNot() {
        Due.sentence("Two are BROTHERS, or not (not, at first).");
        TwiceStolen x = new TwiceStolen();
        for (int one = 0; one <= 7; one++) {
            Due.due("none at first", x.told(20 + one), 0);
        }
        Due.due("none are not any more", x.brothers(0, 7, false), 0);
        Due.due("the first with the last", x.brothers(0, 7, true), 1);
        Due.due("told of 0", x.told(20), 128);
        Due.due("told of 7", x.told(27), 1);
        Due.due("twice is once", x.brothers(0, 7, true), 1);
        Due.due("and the other way round", x.brothers(7, 0, true), 1);
        Due.due("not any more", x.brothers(7, 0, false), 0);
        Due.due("told of 0", x.told(20), 0);
        Due.due("told of 7", x.told(27), 0);
        Due.due("both one", x.brothers(7, 7, true), UNKNOWN);
        Due.due("told of 7", x.told(27), 0);
    }

    private static void brothersOfAll() {
        Due.sentence("Two are BROTHERS (is true), or not: how many two there are.");
        TwiceStolen x = new TwiceStolen();
        int pairs = 0;
        for (int one = 0; one <= 7; one++) {
            for (int other = one + 1; other <= 7; other++) {
                pairs++;
                Due.due("pair " + pairs, x.brothers(one, other, true), pairs);
            }
        }
        for (int one = 0; one <= 7; one++) {
            Due.due("all but himself", x.told(20 + one), 255 - (1 << one));
        }
        for (int one = 0; one <= 7; one++) {
            for (int other = one + 1; other <= 7; other++) {
                pairs--;
                Due.due("pairs left", x.brothers(other, one, false), pairs);
            }
        }
        Due.due("none is left", pairs, 0);
    }

    private static void firstNight() {
        Due.sentence("It is night 0 at first.");
        TwiceStolen x = new TwiceStolen();
        Due.due("night", x.told(2), 0);
        Due.text(x, ".");
        Due.due("not yet", x.told(2), 0);
        Due.due("done", x.done(), 1);
        Due.due("night", x.told(2), 1);
    }

    private static void prices() {
        Due.sentence("PRICE of a THING: its WORTH times (1 less than it was TAKEN); of one that was TAKEN 9 times 0.");
        int[] worth = {0, 1, 99};
        int[][] due = {{0, 0, 0, 0, 0, 0, 0, 0, 0, 0}, {0, 0, 1, 2, 3, 4, 5, 6, 7, 0},
            {0, 0, 99, 198, 297, 396, 495, 594, 693, 0}};
        for (int i = 0; i < worth.length; i++) {
            TwiceStolen x = new TwiceStolen();
            for (int taken = 0; taken <= 9; taken++) {
                x.thing(0, 0, taken, worth[i], 1);
                String call = "worth " + worth[i] + ", taken " + taken;
                Due.due(call, x.behind(0, 2), due[i][taken]);
                if (taken >= 2) {
                    x.one(1, 1000, 1);
                    Due.text(x, "A$aB");
                    Due.due(call + ": what it comes to", x.sold(2), due[i][taken]);
                    Due.due(call + ": what is paid", 1000 - x.purse(1, 0), due[i][taken]);
                    x.wipe();
                }
            }
        }
    }

    private static void padOfSixty() {
        Due.sentence("NIGHTS are a text on a PAD of up to 60 signs");
        TwiceStolen x = new TwiceStolen();
        for (int i = 1; i <= 60; i++) {
            Due.due("sign " + i, x.say('!'), i);
            Due.due("told", x.told(0), i);
        }
        Due.due("the 61st", x.say('!'), FULL);
        Due.due("told", x.told(0), 60);
        Due.due("the 61st, outside", x.say(127), OUTSIDE);
        Due.due("wipe a full pad", x.wipe(), 60);
        Due.due("told", x.told(0), 0);
        Due.due("the first again", x.say('A'), 1);
        x = Due.text(new TwiceStolen(), ".".repeat(60));
        Due.due("a full pad is done", x.done(), 60);
        Due.due("the first again", x.say('A'), 1);
        Due.due("it is that sign alone", x.fault(), 1);
    }

    private static void codesOfSigns() {
        Due.sentence("(codes 33 to 126)");
        for (int sign = 33; sign <= 126; sign++) {
            Due.due("sign " + sign, new TwiceStolen().say(sign), 1);
        }
        TwiceStolen x = new TwiceStolen();
        Due.due("sign 32", x.say(32), OUTSIDE);
        Due.due("sign 127", x.say(127), OUTSIDE);
        Due.due("no sign of them", x.told(0), 0);
        Due.due("no fault of them", x.fault(), NONE);
        // cut to eight or sixteen bits it would be A
        Due.due("sign 321", x.say(321), OUTSIDE);
        Due.due("sign 65601", x.say(65601), OUTSIDE);
    }

    private static void wiping() {
        Due.sentence("Signs go: how many there were.");
        TwiceStolen x = new TwiceStolen();
        Due.due("none", x.wipe(), 0);
        x.say('!');
        Due.due("one", x.wipe(), 1);
        Due.due("none again", x.wipe(), 0);
        Due.due("no fault is left", x.fault(), NONE);
        Due.text(x, "BaA");
        Due.due("three", x.wipe(), 3);
        Due.text(x, "a");
        Due.due("nothing is left of what was wiped", x.fault(), 0);
    }

    private static void firstSignThatCanNotStand() {
        Due.sentence("THE FAULT: the place (from 0 on) of the first sign that can not stand there");
        Due.due("the first place", fault("!"), 0);
        Due.due("the first of two", fault("Ba!!"), 2);
        Due.due("what follows is no matter", fault("B!a"), 1);
        Due.due("a deed without a one", fault("#"), 0);
        Due.due("a thing without a one", fault("a"), 0);
        Due.due("a one behind a one", fault("AB"), 1);
        Due.due("a night behind a one", fault("A."), 1);
        Due.due("a sale of a one", fault("A$B"), 2);
        Due.due("a gift to a thing", fault("A*ab"), 3);
        Due.due("a taking has no receiver", fault("AaB"), 3);
        Due.due("a door has no thing", fault("A#a"), 2);
        Due.due("none", fault("BaA$bB.A#A*bC"), NONE);
    }

    private static void moreMustCome() {
        Due.sentence("or the number of signs, if more must come");
        Due.due("a one alone", fault("H"), 1);
        Due.due("what he sells", fault("H$"), 2);
        Due.due("to whom", fault("H$l"), 3);
        Due.due("no more", fault("H$lA"), NONE);
        Due.due("what he gives", fault("H*"), 2);
        Due.due("to whom", fault("H*l"), 3);
        Due.due("no more", fault("H*lA"), NONE);
        Due.due("behind other acts", fault("Aa.H"), 4);
        Due.due("a sign that can not stand is the fault", fault("!H"), 0);
    }

    private static void faultsOfAFullPad() {
        Due.sentence("or the number of signs, if more must come");
        Due.due("the last place", fault(".".repeat(59) + "!"), 59);
        Due.due("a one at the last place", fault(".".repeat(59) + "A"), 60);
        Due.due("a sale at the last places", fault(".".repeat(58) + "A$"), 60);
        Due.due("no receiver", fault(".".repeat(57) + "A*a"), 60);
        Due.due("just an act", fault(".".repeat(56) + "A*aB"), NONE);
        Due.due("fifteen acts of four", fault("A$bB".repeat(15)), NONE);
        Due.due("thirty acts of two", fault("A#".repeat(30)), NONE);
    }

    private static void emptyPad() {
        Due.sentence("(an empty PAD has no FAULT: no ACTS)");
        TwiceStolen x = new TwiceStolen();
        Due.due("fault", x.fault(), NONE);
        Due.due("judge(0)", x.judge(0), NONE);
        Due.due("judge(1)", x.judge(1), NONE);
        Due.due("judge(2)", x.judge(2), 0);
        Due.due("sold(0)", x.sold(0), NONE);
        Due.due("sold(1)", x.sold(1), NONE);
        Due.due("sold(2)", x.sold(2), 0);
        Due.due("behind", x.behind(11, 0), 3);
        Due.due("purse", x.purse(7, 0), 100);
        Due.due("done", x.done(), 0);
        Due.due("no night went by", x.told(2), 0);
    }

    private static void aSaidSignChangesTheFault() {
        Due.sentence("(a sign that is said changes what fault() tells)");
        TwiceStolen x = new TwiceStolen();
        String signs = "A$aB!.";
        int[] due = {1, 2, 3, NONE, 4, 4};
        for (int i = 0; i < due.length; i++) {
            Due.due("a sign that can not stand is said all the same", x.say(signs.charAt(i)), i + 1);
            Due.due("fault behind it", x.fault(), due[i]);
        }
        Due.due("a sign that is refused", x.say(32), OUTSIDE);
        Due.due("does not", x.fault(), 4);
    }
}
