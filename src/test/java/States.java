/** Objects as some calls left them, made anew each time, and all that can be told of one. */
final class States {
    /** The pad has no fault and each act can be. */
    static final String[] GOOD = {"new", "rich", "acts", "full pad", "full sights", "images", "contradiction"};
    /** The pad has a fault; in some of them an act ahead of it can not be. */
    static final String[] FAULT = {"fault", "unfinished", "cannot, and fault", "full pad, unfinished",
        "full pad, fault"};
    /** The pad has no fault, but some act can not be. */
    static final String[] CANNOT = {"cannot", "cannot at last", "full pad, cannot", "night 99"};

    private States() {
    }

    static String[] all() {
        String[] all = new String[GOOD.length + FAULT.length + CANNOT.length];
        System.arraycopy(GOOD, 0, all, 0, GOOD.length);
        System.arraycopy(FAULT, 0, all, GOOD.length, FAULT.length);
        System.arraycopy(CANNOT, 0, all, GOOD.length + FAULT.length, CANNOT.length);
        return all;
    }

    static TwiceStolen make(String name) {
        TwiceStolen x = new TwiceStolen();
        switch (name) {
            case "new": return x;
            case "rich": return rich(x);
            case "acts": return Due.text(rich(x), "BaCaC$aDD#.");
            case "full pad": return Due.text(rich(x), ".".repeat(60));
            case "full sights": return sights(rich(x));
            case "contradiction": return contradiction(x);
            case "images": return images(x);
            case "fault": return Due.text(rich(x), "BaC!");
            case "unfinished": return Due.text(rich(x), "BaC$");
            case "cannot, and fault": return Due.text(rich(x), "BaBa!");
            case "full pad, unfinished": return Due.text(rich(x), ".".repeat(59) + "A");
            case "full pad, fault": return Due.text(rich(x), ".".repeat(59) + "!");
            case "cannot": return Due.text(rich(x), "BaBaCa");
            case "cannot at last": return Due.text(images(x), "BaCaD*eE");
            case "full pad, cannot": return Due.text(rich(x), ".".repeat(58) + "Aa");
            case "night 99": return night99(x);
            default: throw new IllegalArgumentException(name);
        }
    }

    private static TwiceStolen rich(TwiceStolen x) {
        x.thing(2, 5, 4, 33, 3);
        x.thing(11, 0, 1, 98, 8);
        x.one(6, 4321, 1);
        x.one(7, 0, 0);
        x.brothers(2, 6, true);
        x.ahead(3, 1);
        Due.text(x, ".G#");
        x.done();
        return x;
    }

    private static TwiceStolen sights(TwiceStolen x) {
        x.forget();
        for (int i = 0; i < 8; i++) {
            x.ahead(i % 4, i % 4 + 1);
        }
        return x;
    }

    private static TwiceStolen contradiction(TwiceStolen x) {
        x.ahead(0, 1);
        x.ahead(1, 0);
        return x;
    }

    private static TwiceStolen images(TwiceStolen x) {
        x.image(1);
        rich(x);
        x.image(0);
        x.thing(4, 1, 2, 3, 4);
        x.ahead(4, 0);
        return Due.text(x, "A*aB");
    }

    private static TwiceStolen night99(TwiceStolen x) {
        Due.text(rich(x), ".".repeat(60));
        x.done();
        Due.text(x, ".".repeat(38));
        x.done();
        return Due.text(x, "H#.");
    }

    /** All that can be told of an object and of its images; the pad stays, the rest is spent by it. */
    static String whole(TwiceStolen x) {
        StringBuilder all = new StringBuilder();
        told(x, all);
        pad(x, all);
        // only the last of the images is left, so each is told as soon as it is there
        for (int k = 0; k < 2; k++) {
            all.append("image ").append(x.restore(k)).append(' ');
            told(x, all);
        }
        return all.toString();
    }

    private static void told(TwiceStolen x, StringBuilder all) {
        for (int what = 0; what < 4; what++) {
            all.append(x.told(what)).append(' ');
        }
        for (int one = 0; one < 8; one++) {
            all.append(x.told(10 + one)).append(' ').append(x.told(20 + one)).append(' ');
        }
        for (int thing = 0; thing < 12; thing++) {
            for (int what = 0; what < 4; what++) {
                all.append(x.told(100 + 10 * thing + what)).append(' ');
            }
        }
        all.append(x.fits(-1)).append(' ').append(x.fits(0)).append(' ').append(x.ask(0)).append(' ');
        all.append(x.ask(1)).append(' ').append(x.year(77, 50, 0)).append(' ');
    }

    private static void pad(TwiceStolen x, StringBuilder all) {
        all.append(x.fault()).append(' ');
        for (int what = 0; what < 3; what++) {
            all.append(x.judge(what)).append(' ').append(x.sold(what)).append(' ');
            for (int one = 0; one < 8; one++) {
                all.append(x.purse(one, what)).append(' ');
            }
            for (int thing = 0; thing < 12; thing++) {
                all.append(x.behind(thing, what)).append(' ');
            }
        }
    }
}
