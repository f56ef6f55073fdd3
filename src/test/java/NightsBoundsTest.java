/** Acts and what is told of nights, of sections 1 and 2, sentence by sentence, at their bounds. */
public final class NightsBoundsTest {
    private static final int STATE = -3;
    private static final int NO = -5;
    private static final int NONE = -6;

    public static void main(String[] args) {
        takingMakesOneMore();
        nineAtMost();
        notMoreFromABrother();
        coinGoesOver();
        coinStopsAtTheMost();
        soldIsNotTaken();
        givenIsNotTaken();
        doorsGoRound();
        nightOpensDoors();
        nightAndTakings();
        reasonToTake();
        reasonToGive();
        reasonToSell();
        takenTwiceAtLeast();
        tooLittleCoin();
        nightNinetyNine();
        leastReason();
        firstActThatCanNotBe();
        howManyWereSold();
        behindOfAThing();
        purseOfAOne();
        firstSold();
        whatSalesCameTo();
        done();
        Due.end();
    }

    private static TwiceStolen text(String signs) {
        return Due.text(new TwiceStolen(), signs);
    }

    /** A has thing a: so often taken, of such worth; B has so much coin. */
    private static TwiceStolen sale(int taken, int worth, int coin) {
        TwiceStolen x = new TwiceStolen();
        x.thing(0, 0, taken, worth, 1);
        x.one(1, coin, 1);
        return x;
    }

    private static void judged(String call, TwiceStolen x, int act, int why) {
        Due.due(call + ": judge(0)", x.judge(0), act);
        Due.due(call + ": judge(1)", x.judge(1), why);
    }

    private static void canBe(String call, TwiceStolen x) {
        judged(call, x, NONE, NONE);
    }

    private static void takingMakesOneMore() {
        Due.sentence("he takes it: it is with him then, TAKEN one time more");
        String text = "";
        for (int taken = 1; taken <= 9; taken++) {
            text += taken % 2 == 1 ? "Ba" : "Aa";
            TwiceStolen x = text(text);
            Due.due("who, behind " + taken, x.behind(0, 0), taken % 2);
            Due.due("taken, behind " + taken, x.behind(0, 1), taken);
            Due.due("no other is", x.behind(1, 1), 0);
        }
    }

    private static void nineAtMost() {
        Due.sentence("TAKEN one time more, 9 at most");
        for (int taken = 7; taken <= 9; taken++) {
            TwiceStolen x = sale(taken, 5, 0);
            Due.text(x, "Ba");
            Due.due("behind one from " + taken, x.behind(0, 1), taken == 7 ? 8 : 9);
            Due.text(x, "BaAa");
            Due.due("behind two from " + taken, x.behind(0, 1), 9);
            Due.due("with A", x.behind(0, 0), 0);
            Due.due("done", x.done(), 2);
            Due.due("told", x.told(101), 9);
        }
    }

    private static void notMoreFromABrother() {
        Due.sentence("but not more from a BROTHER");
        for (int taken : new int[] {0, 1, 2, 8, 9}) {
            TwiceStolen x = sale(taken, 5, 0);
            x.brothers(1, 0, true);
            Due.text(x, "Ba");
            Due.due("from a brother, at " + taken, x.behind(0, 1), taken);
            Due.due("it is with him all the same", x.behind(0, 0), 1);
            Due.text(x, "BaAaBa");
            Due.due("and back and again, at " + taken, x.behind(0, 1), taken);
            Due.text(x, "Ca");
            Due.due("no brother of his, at " + taken, x.behind(0, 1), Math.min(9, taken + 1));
            Due.text(x, "BaCa");
            Due.due("from the brother's, at " + taken, x.behind(0, 1), Math.min(9, taken + 1));
            x.brothers(0, 1, false);
            Due.text(x, "Ba");
            Due.due("a brother no more, at " + taken, x.behind(0, 1), Math.min(9, taken + 1));
        }
    }

    private static void coinGoesOver() {
        Due.sentence("(he sells it to that one for its PRICE: COIN goes over");
        TwiceStolen x = sale(3, 20, 40);
        Due.text(x, "A$aB");
        Due.due("all the buyer has", x.purse(1, 0), 0);
        Due.due("goes to the seller", x.purse(0, 0), 140);
        Due.due("who", x.behind(0, 0), 1);
        x = sale(9, 99, 0);
        Due.text(x, "A$aB");
        Due.due("nothing to pay", x.purse(1, 0), 0);
        Due.due("nothing to get", x.purse(0, 0), 100);
        x = sale(2, 0, 0);
        Due.text(x, "A$aB");
        Due.due("nothing to pay", x.purse(1, 0), 0);
        Due.due("who", x.behind(0, 0), 1);
    }

    private static void coinStopsAtTheMost() {
        Due.sentence("COIN goes over, 9999 at most");
        int[] had = {9997, 9998, 9999};
        int[] due = {9998, 9999, 9999};
        for (int i = 0; i < had.length; i++) {
            TwiceStolen x = sale(2, 1, 1);
            x.one(0, had[i], 1);
            Due.text(x, "A$aB");
            Due.due("one more than " + had[i], x.purse(0, 0), due[i]);
            Due.due("paid all the same", x.purse(1, 0), 0);
            Due.due("came to all the same", x.sold(2), 1);
            Due.due("done", x.done(), 1);
            Due.due("told", x.told(10), due[i]);
        }
        TwiceStolen x = sale(8, 99, 9999);
        x.one(0, 9999, 1);
        Due.text(x, "A$aB");
        Due.due("much more than 9999", x.purse(0, 0), 9999);
        Due.due("both had all", x.purse(1, 0), 9306);
        x.thing(1, 1, 2, 50, 1);
        Due.text(x, "A$aBB$bA");
        Due.due("what was cut is gone when he buys", x.purse(0, 0), 9949);
        Due.due("and the other has it", x.purse(1, 0), 9356);
    }

    private static void soldIsNotTaken() {
        Due.sentence("COIN goes over, 9999 at most; TAKEN is 0 then)");
        for (int taken = 2; taken <= 9; taken++) {
            TwiceStolen x = sale(taken, 5, 100);
            Due.text(x, "A$aB");
            Due.due("sold at " + taken, x.behind(0, 1), 0);
            Due.text(x, "A$aBAa");
            Due.due("and taken", x.behind(0, 1), 1);
            Due.text(x, "A$aBB$aA");
            judged("not fit for sale any more", x, 1, 4);
        }
    }

    private static void givenIsNotTaken() {
        Due.sentence("(he gives it to that one: TAKEN is 0 then)");
        for (int taken = 0; taken <= 9; taken++) {
            TwiceStolen x = sale(taken, 99, 0);
            Due.text(x, "A*aB");
            Due.due("given at " + taken, x.behind(0, 1), 0);
            Due.due("who", x.behind(0, 0), 1);
            Due.due("no coin goes", x.purse(0, 0), 100);
            Due.due("no coin goes", x.purse(1, 0), 0);
            Due.due("no sale", x.judge(2), 0);
        }
    }

    private static void doorsGoRound() {
        Due.sentence("or # (his DOOR is shut, or ajar again)");
        for (int times = 0; times <= 5; times++) {
            for (int one = 0; one <= 7; one += 7) {
                String door = (one == 0 ? "A#" : "H#").repeat(times);
                TwiceStolen x = text(door);
                Due.due("ajar, " + times + " times", x.purse(one, 2), times % 2 == 0 ? 1 : 0);
                x.one(one, 100, 0);
                Due.due("shut, " + times + " times", x.purse(one, 2), times % 2 == 0 ? 0 : 1);
                Due.due("done", x.done(), times);
                Due.due("told", x.told(1), times % 2 == 0 ? 255 - (1 << one) : 255);
            }
        }
    }

    private static void nightOpensDoors() {
        Due.sentence("(a night: each DOOR that is shut is ajar;");
        for (int shut : new int[] {0, 1, 128, 129, 85, 255}) {
            TwiceStolen x = new TwiceStolen();
            for (int one = 0; one <= 7; one++) {
                x.one(one, 100, (shut >> one & 1) == 1 ? 0 : 1);
            }
            Due.text(x, ".");
            for (int one = 0; one <= 7; one++) {
                Due.due("door of " + one + ", shut were " + shut, x.purse(one, 2), 1);
            }
            Due.due("in fact they are as before", x.told(1), 255 - shut);
            Due.due("done", x.done(), 1);
            Due.due("all are ajar", x.told(1), 255);
        }
    }

    private static void nightAndTakings() {
        Due.sentence("each THING TAKEN once alone is TAKEN not at all: who has it owned up)");
        for (int taken = 0; taken <= 9; taken++) {
            TwiceStolen x = new TwiceStolen();
            for (int thing = 0; thing <= 11; thing++) {
                x.thing(thing, 7 - thing % 8, (taken + thing) % 10, 9, 1);
            }
            Due.text(x, ".");
            for (int thing = 0; thing <= 11; thing++) {
                int was = (taken + thing) % 10;
                Due.due("by night, of " + was, x.behind(thing, 1), was == 1 ? 0 : was);
                Due.due("who has it has it", x.behind(thing, 0), 7 - thing % 8);
            }
        }
        Due.due("once in the text", text("Ba.").behind(0, 1), 0);
        Due.due("twice in the text", text("BaCa.").behind(0, 1), 2);
        Due.due("once before each night", text("Ba.Ca.").behind(0, 1), 0);
        Due.due("two nights", text("BaCa..").behind(0, 1), 2);
    }

    private static void reasonToTake() {
        Due.sentence("1 he has it already (to take)");
        judged("his own", text("Aa"), 0, 1);
        judged("what he took", text("BaBa"), 1, 1);
        judged("what he was given", text("A*aBBa"), 1, 1);
        canBe("what he gave", text("A*aBAa"));
        Due.sentence("2 the DOOR of who has it is shut (to take)");
        judged("shut", text("A#Ba"), 1, 2);
        canBe("ajar again", text("A#A#Ba"));
        canBe("by another night", text("A#.Ba"));
        canBe("the taker's own is shut", text("B#Ba"));
        judged("it is at another's who is shut", text("BaB#Ca"), 2, 2);
        canBe("it was at one who is shut", text("BaA#Ca"));
        canBe("sales and gifts go by shut doors", text("BaCaC#D#E#C$aDD*aE"));
    }

    private static void reasonToGive() {
        Due.sentence("he has it not ($, *)");
        judged("gives what he has not", text("B*aC"), 0, 1);
        judged("sells what he has not", Due.text(sale(2, 5, 100), "B$aC"), 0, 1);
        judged("gave it before", text("A*aBA*aC"), 1, 1);
        canBe("was given it", text("A*aBB*aC"));
        Due.sentence("3 both are one ($, *)");
        judged("gives to himself", text("A*aA"), 0, 3);
        judged("gives to himself, the last", text("H*hH"), 0, 3);
        canBe("gives to the next", text("A*aB"));
    }

    private static void reasonToSell() {
        Due.sentence("3 both are one ($, *)");
        judged("sells to himself", Due.text(sale(2, 5, 100), "A$aA"), 0, 3);
        canBe("sells to the next", Due.text(sale(2, 5, 100), "A$aB"));
    }

    private static void takenTwiceAtLeast() {
        Due.sentence("4 it was not TAKEN twice at least ($)");
        for (int taken = 0; taken <= 9; taken++) {
            TwiceStolen x = Due.text(sale(taken, 1, 100), "A$aB");
            judged("sold at " + taken, x, taken < 2 ? 0 : NONE, taken < 2 ? 4 : NONE);
            Due.due("judge(2)", x.judge(2), taken < 2 ? STATE : 1);
        }
        judged("taken once in the text", text("BaB$aC"), 1, 4);
        canBe("taken twice in the text", text("BaCaC$aD"));
        judged("once, and once behind a night", text("Ba.CaC$aD"), 3, 4);
        canBe("twice ahead of a night", text("BaCa.C$aD"));
        canBe("gifts need no taking", text("A*aB"));
    }

    private static void tooLittleCoin() {
        Due.sentence("5 that one has too little COIN ($)");
        int[][] prices = {{2, 1, 1}, {2, 99, 99}, {3, 50, 100}, {8, 99, 693}};
        for (int[] p : prices) {
            judged("one too little of " + p[2], Due.text(sale(p[0], p[1], p[2] - 1), "A$aB"), 0, 5);
            canBe("just so much as " + p[2], Due.text(sale(p[0], p[1], p[2]), "A$aB"));
            canBe("one more than " + p[2], Due.text(sale(p[0], p[1], p[2] + 1), "A$aB"));
        }
        canBe("nothing for what was taken nine times", Due.text(sale(9, 99, 0), "A$aB"));
        canBe("nothing for what is worth nothing", Due.text(sale(8, 0, 0), "A$aB"));
        TwiceStolen x = sale(8, 99, 693);
        x.one(0, 0, 1);
        canBe("the seller's coin is no matter", Due.text(x, "A$aB"));
        x.thing(2, 0, 2, 1, 1);
        judged("he paid all he had", Due.text(x, "A$aBA$cB"), 1, 5);
    }

    private static void nightNinetyNine() {
        Due.sentence("6 it is night 99 (.).");
        TwiceStolen x = text(".".repeat(60));
        Due.due("done", x.done(), 60);
        Due.text(x, ".".repeat(38));
        Due.due("done", x.done(), 38);
        Due.due("night 98", x.told(2), 98);
        canBe("one night more", Due.text(x, "."));
        judged("two nights more", Due.text(x, ".."), 1, 6);
        Due.due("not done", x.done(), STATE);
        Due.due("night 98 still", x.told(2), 98);
        Due.text(x, ".");
        Due.due("done", x.done(), 1);
        Due.due("night 99", x.told(2), 99);
        judged("no night more", Due.text(x, "."), 0, 6);
        Due.due("not done", x.done(), STATE);
        Due.due("night 99 still", x.told(2), 99);
        canBe("all else can be", Due.text(x, "BaCaC$aDD*aEA#"));
        judged("and then no night", Due.text(x, "BaCaC$aDD*aEA#."), 5, 6);
    }

    private static void leastReason() {
        Due.sentence("An ACT can not be for the least of these reasons:");
        judged("1 and 2: his own, and his door is shut", text("A#Aa"), 1, 1);
        judged("1 and 3, to give: another's, to himself", text("B*aB"), 0, 1);
        judged("1 and 3, to sell", Due.text(sale(2, 5, 100), "B$aB"), 0, 1);
        judged("1 and 4: another's, not taken", text("B$aC"), 0, 1);
        TwiceStolen poor = sale(8, 99, 100);
        judged("1 and 5: another's, for too much", Due.text(poor, "B$aC"), 0, 1);
        judged("1, 3 and 4", text("B$aB"), 0, 1);
        judged("1, 3 and 5", Due.text(poor, "B$aB"), 0, 1);
        judged("3 and 4: to himself, not taken", text("A$aA"), 0, 3);
        judged("3 and 4: to himself, taken once", Due.text(sale(1, 99, 0), "A$aA"), 0, 3);
        judged("3 and 5: to himself, for too much", Due.text(poor, "A$aA"), 0, 3);
        judged("5 alone", Due.text(poor, "A$aC"), 0, 5);
        judged("4, though there is no coin at all", Due.text(sale(1, 99, 0), "A$aB"), 0, 4);
    }

    private static void firstActThatCanNotBe() {
        Due.sentence("JUDGED: the first ACT (from 0 on) that can not be, why;");
        judged("the first", text("Aa"), 0, 1);
        judged("the first of two", text("AaB*aB"), 0, 1);
        judged("the second, though the third can not be", text(".A*aAB$aC"), 1, 3);
        judged("acts of all lengths are one each", text(".A#CbC*bDAa"), 4, 1);
        judged("the last of thirty", text("A#".repeat(29) + "Aa"), 29, 1);
        judged("the last of sixty", text(".".repeat(58) + "Aa"), 58, 1);
        canBe("none of sixty", text(".".repeat(60)));
        canBe("none of none", text(""));
        TwiceStolen x = text("AaB");
        judged("a fault", x, NO, NO);
    }

    private static void howManyWereSold() {
        Due.sentence("how many were sold in the text.");
        Due.due("none", text("BaCaC*aD").judge(2), 0);
        TwiceStolen x = new TwiceStolen();
        String text = "";
        for (int thing = 0; thing <= 11; thing++) {
            x.thing(thing, 0, 2, 1, 1);
            Due.text(x, text);
            Due.due("so many", x.judge(2), thing);
            text += "A$" + (char) ('a' + thing) + "B";
        }
        Due.text(x, text);
        Due.due("all twelve", x.judge(2), 12);
        Due.text(x, text + "CaDaD$aE");
        Due.due("one of them twice", x.judge(2), 13);
        Due.text(x, text + "Bb");
        Due.due("some act can not be", x.judge(2), STATE);
        Due.due("why", x.judge(1), 1);
        Due.due("which", x.judge(0), 12);
    }

    private static void behindOfAThing() {
        Due.sentence("BEHIND: of a THING who has it, TAKEN, PRICE (0, if it was not TAKEN twice at least).");
        for (int taken = 0; taken <= 9; taken++) {
            TwiceStolen x = sale(taken, 7, 0);
            Due.due("who", x.behind(0, 0), 0);
            Due.due("taken", x.behind(0, 1), taken);
            Due.due("price at " + taken, x.behind(0, 2), taken < 2 || taken == 9 ? 0 : 7 * (taken - 1));
        }
        Due.due("the price behind the text", text("BaCaDa").behind(0, 2), 10);
        Due.due("of the last thing", text("Al").behind(11, 0), 0);
        Due.due("of the last thing", text("Al").behind(11, 1), 1);
    }

    private static void purseOfAOne() {
        Due.sentence("PURSE: of a ONE COIN, how many THINGS he has, his DOOR (1 ajar, 0).");
        TwiceStolen x = new TwiceStolen();
        Due.due("two", x.purse(3, 1), 2);
        Due.due("one", x.purse(4, 1), 1);
        for (int thing = 0; thing <= 11; thing++) {
            x.thing(thing, 7, 0, 5, 1);
        }
        Due.due("all", x.purse(7, 1), 12);
        Due.due("none", x.purse(0, 1), 0);
        Due.text(x, "AaAl");
        Due.due("all but two", x.purse(7, 1), 10);
        Due.due("these two", x.purse(0, 1), 2);
        x.one(7, 9999, 0);
        x.one(0, 0, 1);
        x.wipe();
        Due.due("most coin", x.purse(7, 0), 9999);
        Due.due("least coin", x.purse(0, 0), 0);
        Due.due("shut", x.purse(7, 2), 0);
        Due.due("ajar", x.purse(0, 2), 1);
    }

    private static void firstSold() {
        Due.sentence("SOLD: the first ACT by which one was; which; NONE;");
        TwiceStolen x = text("BaC#.A*iB");
        Due.due("none", x.sold(0), NONE);
        Due.due("none", x.sold(1), NONE);
        x = new TwiceStolen();
        x.thing(0, 0, 2, 5, 1);
        x.thing(11, 0, 2, 6, 1);
        Due.text(x, "A$aBA$lB");
        Due.due("act 0", x.sold(0), 0);
        Due.due("thing 0", x.sold(1), 0);
        Due.text(x, "A$lBA$aB");
        Due.due("act 0", x.sold(0), 0);
        Due.due("thing 11", x.sold(1), 11);
        Due.text(x, ".".repeat(56) + "A$lB");
        Due.due("the last of 57", x.sold(0), 56);
        Due.due("thing 11", x.sold(1), 11);
    }

    private static void whatSalesCameTo() {
        Due.sentence("what all sales of the text came to (their PRICES together).");
        Due.due("none", text("BaCa").sold(2), 0);
        Due.due("for nothing", Due.text(sale(9, 99, 0), "A$aB").sold(2), 0);
        TwiceStolen x = new TwiceStolen();
        x.one(1, 9999, 1);
        String text = "";
        for (int thing = 0; thing <= 11; thing++) {
            x.thing(thing, 0, 8, 99, 1);
            text += "A$" + (char) ('a' + thing) + "B";
        }
        Due.text(x, text);
        Due.due("twelve at the most", x.sold(2), 8316);
        Due.due("what is left of 9999", x.purse(1, 0), 1683);
        Due.due("what A has", x.purse(0, 0), 8416);
        x.one(0, 9999, 1);
        Due.due("what A can not have comes to it, too", x.sold(2), 8316);
        Due.due("what A has", x.purse(0, 0), 9999);
        Due.text(x, text.substring(0, 12));
        x.done();
        Due.due("what was sold before is not of the text", x.sold(2), 0);
    }

    private static void done() {
        Due.sentence("NIGHTS are DONE (the PAD is empty then): ACTS.");
        Due.due("none", text("").done(), 0);
        Due.due("sixty of one sign", text(".".repeat(60)).done(), 60);
        Due.due("thirty of two", text("A#".repeat(30)).done(), 30);
        TwiceStolen x = text("A*aBB*aA".repeat(7) + "A*aB");
        Due.due("fifteen of four", x.done(), 15);
        Due.due("the pad is empty", x.told(0), 0);
        Due.due("no fault", x.fault(), NONE);
        Due.due("nothing more is done", x.done(), 0);
        Due.due("with B", x.told(100), 1);
        Due.due("nothing is behind an empty pad", x.behind(0, 0), 1);
        Due.due("the first sign again", x.say('B'), 1);
    }
}
