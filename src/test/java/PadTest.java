/** Promises 5 to 7: say, wipe, fault. */
public final class PadTest {
    public static void main(String[] args) {
        sayAndWipe();
        faults();
        allSigns();
        Due.end();
    }

    private static void sayAndWipe() {
        TwiceStolen x = new TwiceStolen();
        Due.due("wipe an empty pad", x.wipe(), 0);
        Due.due("sign 32", x.say(32), -2);
        Due.due("sign 127", x.say(127), -2);
        Due.due("sign -1", x.say(-1), -2);
        Due.due("sign 65536 + 65", x.say(65536 + 65), -2);
        Due.due("refused signs are not there", x.told(0), 0);
        Due.due("sign 33", x.say(33), 1);
        Due.due("sign 126", x.say(126), 2);
        Due.due("signs", x.told(0), 2);
        Due.due("wipe", x.wipe(), 2);
        Due.due("signs", x.told(0), 0);
        Due.due("fault of an empty pad", x.fault(), -6);
        for (int i = 1; i <= 60; i++) {
            Due.due("sign " + i, x.say('.'), i);
        }
        Due.due("a sign too many", x.say('.'), -4);
        Due.due("a wrong sign too many", x.say(32), -2);
        Due.due("signs", x.told(0), 60);
        Due.due("no fault", x.fault(), -6);
        Due.due("wipe", x.wipe(), 60);
        Due.due("said anew", x.say('.'), 1);
    }

    private static void faults() {
        fault("Aa", -6);
        fault("Hl", -6);
        fault("A#", -6);
        fault(".", -6);
        fault("A$aB", -6);
        fault("A*lH", -6);
        fault("AaA$aB.B#C*cD", -6);
        fault("A", 1);
        fault("A$", 2);
        fault("A$a", 3);
        fault("A*", 2);
        fault("A*a", 3);
        fault("AaA", 3);
        fault("AaA$a", 5);
        fault("I", 0);
        fault("a", 0);
        fault("#", 0);
        fault("$", 0);
        fault("@", 0);
        fault("Am", 1);
        fault("AA", 1);
        fault("A.", 1);
        fault("A`", 1);
        fault("A$A", 2);
        fault("A$m", 2);
        fault("A$$", 2);
        fault("A$aa", 3);
        fault("A$aI", 3);
        fault("A*a.", 3);
        fault("A*a@", 3);
        fault("AaA$aB#", 6);
        fault("..!A", 2);
        fault("A#a", 2);
        fault("I.", 0);
    }

    private static void fault(String text, int want) {
        Due.due("fault of " + text, Due.text(new TwiceStolen(), text).fault(), want);
    }

    // which signs can stand where, from the words of the document
    private static void allSigns() {
        String first = "ABCDEFGH.";
        String second = "abcdefghijkl$*#";
        String third = "abcdefghijkl";
        String fourth = "ABCDEFGH";
        TwiceStolen x = new TwiceStolen();
        for (int sign = 33; sign <= 126; sign++) {
            stands(new TwiceStolen(), "", sign, first);
            stands(new TwiceStolen(), "C", sign, second);
            stands(new TwiceStolen(), "C$", sign, third);
            stands(new TwiceStolen(), "C*", sign, third);
            stands(new TwiceStolen(), "C$d", sign, fourth);
            stands(new TwiceStolen(), ".C*d", sign, fourth);
        }
        Due.due("nothing said", x.fault(), -6);
    }

    private static void stands(TwiceStolen x, String ahead, int sign, String signs) {
        Due.text(x, ahead + (char) sign);
        boolean can = x.fault() != ahead.length();
        Due.due((char) sign + " behind " + ahead, can ? 1 : 0, signs.indexOf(sign) >= 0 ? 1 : 0);
    }
}
