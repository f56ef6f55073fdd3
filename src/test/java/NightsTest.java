/** Promises 8 to 12: judge, behind, purse, sold, done. */
public final class NightsTest {
    public static void main(String[] args) {
        reasons();
        takings();
        sales();
        gifts();
        doorsAndNights();
        lastNight();
        whatWasSold();
        done();
        refusals();
        Due.end();
    }

    private static TwiceStolen text(String signs) {
        return Due.text(new TwiceStolen(), signs);
    }

    private static void judged(String call, TwiceStolen x, int act, int why) {
        Due.due(call + ": judge(0)", x.judge(0), act);
        Due.due(call + ": judge(1)", x.judge(1), why);
        if (act >= 0) {
            Due.due(call + ": judge(2)", x.judge(2), -3);
        }
    }

    private static void reasons() {
        judged("empty", text(""), -6, -6);
        judged("has it", text("Aa"), 0, 1);
        judged("has it now", text("BaBa"), 1, 1);
        judged("shut", text("A#Ba"), 1, 2);
        judged("has it, and shut", text("A#Aa"), 1, 1);
        judged("his own door is no matter", text("B#Ba"), -6, -6);
        judged("has it not", text("B$aC"), 0, 1);
        judged("has it not, both one", text("B$aB"), 0, 1);
        judged("both one", text("A$aA"), 0, 3);
        judged("not taken", text("A$aB"), 0, 4);
        judged("taken once", text("BaB$aA"), 1, 4);
        judged("gives what he has not", text("B*aC"), 0, 1);
        judged("gives to himself", text("A*aA"), 0, 3);
        judged("only the first", text("BaBaA#A$bB"), 1, 1);
        TwiceStolen x = new TwiceStolen();
        x.thing(0, 0, 2, 99, 1);
        x.one(1, 98, 1);
        judged("too little coin", Due.text(x, ".A$aB"), 1, 5);
        x.thing(0, 0, 1, 99, 1);
        judged("not taken twice, and too little", Due.text(x, "A$aB"), 0, 4);
        x.thing(0, 0, 2, 99, 1);
        x.one(1, 99, 1);
        judged("just enough", Due.text(x, "A$aB"), -6, -6);
        Due.due("nothing left", x.purse(1, 0), 0);
        x.one(1, 99, 0);
        judged("doors are no matter to sales", Due.text(x, "A#A$aB"), -6, -6);
        x.one(1, 0, 1);
        x.thing(0, 0, 9, 99, 1);
        judged("nine times goes for nothing", Due.text(x, "A$aB"), -6, -6);
        x.thing(0, 0, 2, 0, 1);
        judged("worth nothing", Due.text(x, "A$aB"), -6, -6);
    }

    private static void takings() {
        TwiceStolen x = text("BaCa");
        Due.due("who", x.behind(0, 0), 2);
        Due.due("taken", x.behind(0, 1), 2);
        Due.due("price", x.behind(0, 2), 5);
        Due.due("one the less", x.purse(0, 1), 1);
        Due.due("one the more", x.purse(2, 1), 3);
        Due.due("as it is in fact", x.told(100), 0);
        Due.due("as it is in fact", x.told(101), 0);
        x = text("BaAaBaAaBaAaBaAa");
        Due.due("taken 8", x.behind(0, 1), 8);
        Due.due("price 35", x.behind(0, 2), 35);
        x = text("BaAaBaAaBaAaBaAaBa");
        Due.due("taken 9", x.behind(0, 1), 9);
        Due.due("price 0", x.behind(0, 2), 0);
        x = text("BaAaBaAaBaAaBaAaBaAa");
        Due.due("taken 9 at most", x.behind(0, 1), 9);
        Due.due("with A", x.behind(0, 0), 0);
        x = text("Ba");
        Due.due("once has no price", x.behind(0, 2), 0);
        Due.due("never has no price", x.behind(1, 2), 0);
        x = new TwiceStolen();
        x.brothers(0, 1, true);
        Due.text(x, "Ba");
        Due.due("from a brother", x.behind(0, 0), 1);
        Due.due("not more from a brother", x.behind(0, 1), 0);
        Due.text(x, "CaBaAaCa");
        Due.due("two of four", x.behind(0, 1), 3);
        x.brothers(1, 0, false);
        Due.text(x, "Ba");
        Due.due("no brother any more", x.behind(0, 1), 1);
        x = new TwiceStolen();
        x.brothers(0, 1, true);
        x.brothers(1, 2, true);
        Due.text(x, "Ca");
        Due.due("a brother's brother is none", x.behind(0, 1), 1);
    }

    private static void sales() {
        TwiceStolen x = text("BaCaC$aD");
        Due.due("who", x.behind(0, 0), 3);
        Due.due("taken", x.behind(0, 1), 0);
        Due.due("price", x.behind(0, 2), 0);
        Due.due("seller", x.purse(2, 0), 105);
        Due.due("buyer", x.purse(3, 0), 95);
        Due.due("others", x.purse(0, 0), 100);
        Due.due("things of the buyer", x.purse(3, 1), 3);
        x = new TwiceStolen();
        x.thing(0, 0, 5, 99, 1);
        x.one(0, 9700, 1);
        x.one(1, 9999, 1);
        Due.text(x, "A$aB");
        Due.due("9999 at most", x.purse(0, 0), 9999);
        Due.due("the buyer pays all", x.purse(1, 0), 9603);
        Due.due("it came to all", x.sold(2), 396);
        x.one(0, 9603, 1);
        Due.due("9999 just", x.purse(0, 0), 9999);
        x.one(0, 9602, 1);
        Due.due("9998", x.purse(0, 0), 9998);
    }

    private static void gifts() {
        TwiceStolen x = text("BaCaC*aD");
        Due.due("who", x.behind(0, 0), 3);
        Due.due("taken", x.behind(0, 1), 0);
        Due.due("coin", x.purse(2, 0), 100);
        Due.due("coin", x.purse(3, 0), 100);
        Due.due("no sale", x.judge(2), 0);
        Due.due("no sale", x.sold(0), -6);
        x = text("A#D#A*aD");
        Due.due("doors are no matter to gifts", x.behind(0, 0), 3);
    }

    private static void doorsAndNights() {
        TwiceStolen x = text("A#");
        Due.due("shut", x.purse(0, 2), 0);
        Due.due("another's is ajar", x.purse(1, 2), 1);
        x = text("A#A#");
        Due.due("ajar again", x.purse(0, 2), 1);
        judged("ajar again", text("A#A#Ba"), -6, -6);
        x = text("A#H#.");
        Due.due("ajar by night", x.purse(0, 2), 1);
        Due.due("ajar by night", x.purse(7, 2), 1);
        x = text("BaCbDb.");
        Due.due("once is owned up", x.behind(0, 1), 0);
        Due.due("it stays with him", x.behind(0, 0), 1);
        Due.due("twice stays", x.behind(1, 1), 2);
        x = new TwiceStolen();
        x.one(4, 0, 0);
        x.thing(5, 5, 1, 5, 1);
        x.thing(6, 6, 9, 5, 1);
        Due.text(x, "EaEb");
        Due.due("shut in fact", x.purse(4, 2), 0);
        Due.text(x, ".");
        Due.due("ajar by night", x.purse(4, 2), 1);
        Due.due("taken once before", x.behind(5, 1), 0);
        Due.due("taken nine times", x.behind(6, 1), 9);
        x.done();
        Due.due("it is night 1", x.told(2), 1);
        Due.due("all ajar", x.told(1), 255);
    }

    private static void lastNight() {
        TwiceStolen x = text("............................................................");
        Due.due("sixty nights", x.done(), 60);
        Due.due("night 60", x.told(2), 60);
        Due.text(x, ".......................................");
        judged("night 99 can be", x, -6, -6);
        x.say('.');
        judged("no night behind 99", x, 39, 6);
        Due.due("refused", x.done(), -3);
        Due.due("night 60 still", x.told(2), 60);
        Due.text(x, ".......................................");
        Due.due("done", x.done(), 39);
        Due.due("night 99", x.told(2), 99);
        Due.text(x, "Ba.");
        judged("no night behind 99", x, 1, 6);
        Due.text(x, "Ba");
        judged("by day all can be", x, -6, -6);
        Due.due("a year behind night 99", x.year(5, 90, 0) >= 0 ? 1 : 0, 1);
    }

    private static void whatWasSold() {
        TwiceStolen x = text("");
        Due.due("none was", x.sold(0), -6);
        Due.due("none was", x.sold(1), -6);
        Due.due("none was", x.sold(2), 0);
        Due.due("none was", x.judge(2), 0);
        x = new TwiceStolen();
        x.thing(3, 0, 3, 20, 1);
        x.thing(2, 0, 2, 7, 1);
        Due.text(x, ".A#A$dB.A$cB");
        Due.due("how many", x.judge(2), 2);
        Due.due("the first act", x.sold(0), 2);
        Due.due("which", x.sold(1), 3);
        Due.due("what they came to", x.sold(2), 47);
        Due.text(x, "A$cB");
        Due.due("the first act", x.sold(0), 0);
        Due.due("which", x.sold(1), 2);
        Due.due("what it came to", x.sold(2), 7);
        x.thing(2, 0, 9, 99, 1);
        Due.due("sold for nothing", x.sold(2), 0);
        Due.due("sold all the same", x.sold(0), 0);
        Due.due("sold all the same", x.judge(2), 1);
        x.thing(0, 0, 2, 10, 1);
        Due.text(x, "A$aBCaDaD$aE");
        Due.due("one thing sold twice", x.judge(2), 2);
        Due.due("one thing sold twice", x.sold(2), 20);
    }

    private static void done() {
        TwiceStolen x = text("");
        Due.due("nothing done", x.done(), 0);
        x = text("BaCaC$aDA#.E#FgFe");
        judged("shut is shut", x, 7, 2);
        Due.due("not done", x.done(), -3);
        Due.due("signs stay", x.told(0), 17);
        x = text("BaCaC$aDA#.E#F*fG");
        Due.due("acts", x.done(), 7);
        Due.due("signs", x.told(0), 0);
        Due.due("who", x.told(100), 3);
        Due.due("taken", x.told(101), 0);
        Due.due("worth", x.told(102), 5);
        Due.due("coin", x.told(12), 105);
        Due.due("coin", x.told(13), 95);
        Due.due("doors", x.told(1), 239);
        Due.due("night", x.told(2), 1);
        Due.due("gift", x.told(150), 6);
        Due.due("nothing more", x.done(), 0);
        x = text("Ba");
        x.ahead(1, 2);
        x.brothers(6, 7, true);
        Due.due("done", x.done(), 1);
        Due.due("sights stay", x.told(3), 1);
        Due.due("brothers stay", x.told(26), 128);
    }

    private static void refusals() {
        TwiceStolen good = text("Ba");
        TwiceStolen faulty = text("Ba!");
        TwiceStolen unfinished = text("BaA");
        TwiceStolen cannot = text("BaBa");
        String before = Due.state(faulty);
        for (int wrong : new int[] {-1, 3, Integer.MIN_VALUE, Integer.MAX_VALUE}) {
            Due.due("judge", good.judge(wrong), -2);
            Due.due("judge", faulty.judge(wrong), -2);
            Due.due("sold", good.sold(wrong), -2);
            Due.due("sold", faulty.sold(wrong), -2);
            Due.due("behind", good.behind(0, wrong), -2);
            Due.due("behind", faulty.behind(0, wrong), -2);
            Due.due("behind", cannot.behind(12, wrong), -1);
            Due.due("purse", good.purse(0, wrong), -2);
            Due.due("purse", cannot.purse(0, wrong), -2);
            Due.due("purse", faulty.purse(8, wrong), -1);
        }
        for (int what = 0; what < 3; what++) {
            for (TwiceStolen x : new TwiceStolen[] {faulty, unfinished}) {
                Due.due("judge", x.judge(what), -5);
                Due.due("sold", x.sold(what), -5);
                Due.due("behind", x.behind(0, what), -5);
                Due.due("purse", x.purse(0, what), -5);
                Due.due("behind none", x.behind(-1, what), -1);
                Due.due("purse of none", x.purse(-1, what), -1);
                Due.due("done", x.done(), -5);
            }
            Due.due("sold", cannot.sold(what), -3);
            Due.due("behind", cannot.behind(0, what), -3);
            Due.due("purse", cannot.purse(0, what), -3);
            Due.due("behind none", cannot.behind(12, what), -1);
            Due.due("purse of none", cannot.purse(8, what), -1);
        }
        TwiceStolen both = text("BaBa!");
        Due.due("a fault ahead of all", both.judge(0), -5);
        Due.same("refused", Due.state(faulty), before);
        Due.due("signs stay", faulty.told(0), 3);
    }
}
