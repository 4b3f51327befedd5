/** What the tests by hand share: texts, calls put together, and answers held against those that are due. */
class Asking {
    static final int NONE = MayRings.NONE;
    static final String THREE = "house a weight 1;house b weight 2;house c weight 3;";
    static final String FIVE = "house a weight 5;house b weight 3;house c weight 4;house d weight 2;house e weight 1;";
    private static int wrong = 0;
    private static int asked = 0;

    static void due(String what, long got, long want) {
        asked++;
        if (got != want) {
            wrong++;
            System.out.println(what + " answered " + got + ", due is " + want);
        }
    }

    static void due(String what, boolean got, boolean want) {
        due(what, got ? 1 : 0, want ? 1 : 0);
    }

    /** Puts a text on the tape, instead of what is there. */
    static void put(MayRings x, String text) {
        x.end(0);
        for (int from = 0; from < text.length(); from += 20) {
            int[] five = new int[5];
            for (int i = 0; i < 20; i++) {
                int sign = from + i < text.length() ? text.charAt(from + i) : ' ';
                five[i / 4] = five[i / 4] << 8 | sign;
            }
            x.feed(five[0], five[1], five[2], five[3], five[4]);
        }
        x.end(text.length());
    }

    static MayRings of(String text) {
        MayRings x = new MayRings();
        put(x, text);
        due("valley of " + text, x.valley() >= 0, true);
        return x;
    }

    static void faulty(String text, int fault, int place) {
        MayRings x = new MayRings();
        put(x, text);
        due("valley of " + text, x.valley(), NONE);
        due("fault(0) of " + text, x.fault(0), fault);
        due("fault(1) of " + text, x.fault(1), place);
    }

    static void sound(String text, int houses) {
        MayRings x = new MayRings();
        put(x, text);
        due("valley of " + text, x.valley(), houses);
        due("fault(0) of " + text, x.fault(0), 0);
    }

    /** As many houses as are asked for, a, b, c and so on, of weights 1, 2, 3 and so on. */
    static String houses(int n) {
        StringBuilder text = new StringBuilder();
        for (int i = 0; i < n; i++) {
            text.append("house ").append((char) ('a' + i)).append(" weight ").append(i + 1).append(";");
        }
        return text.toString();
    }

    static void tellAll(MayRings x, int... houses) {
        x.hush();
        for (int house : houses) {
            x.tell(house);
        }
    }

    static int drawUp(MayRings x, int... houses) {
        tellAll(x, houses);
        return x.up();
    }

    static void liesThere(String what, MayRings x, int... houses) {
        for (int place = 0; place < houses.length; place++) {
            due(what + ": lies(" + place + ")", x.lies(place), houses[place]);
        }
        due(what + ": lies behind it", x.lies(houses.length), NONE);
    }

    /** What calls that change nothing tell of an object. */
    static String view(MayRings x) {
        StringBuilder view = new StringBuilder("about");
        for (int what = 0; what < 10; what++) {
            view.append(' ').append(x.about(what));
        }
        view.append(", lies");
        for (int place = 0; place < 5; place++) {
            view.append(' ').append(x.lies(place));
        }
        view.append(", stands");
        for (int place = 0; place < 5; place++) {
            view.append(' ').append(x.stands(place));
        }
        view.append(", judge");
        for (int what = 0; what < 3; what++) {
            view.append(' ').append(x.judge(what));
        }
        view.append(", since").append(x.since(0, 1)).append(' ').append(x.since(1, 2)).append(' ').append(x.since(0, 2));
        view.append(", let").append(x.let(0, 1)).append(' ').append(x.let(1, 2)).append(' ').append(x.let(0, 2));
        view.append(", lawful ").append(x.lawful()).append(", shut ").append(x.shut());
        view.append(", fits ").append(x.fits(0)).append(' ').append(x.fits(100000));
        view.append(", sure ").append(x.sure(0, 100000)).append(", ruled ").append(x.ruled(0, 1));
        return view.toString();
    }

    static void same(String what, String got, String want) {
        asked++;
        if (!got.equals(want)) {
            wrong++;
            System.out.println(what + ": it is " + got + ", due is " + want);
        }
    }

    /** Says how many answers there were, and ends with 1 if one was wrong. */
    static void end(String test) {
        System.out.println(test + ": " + asked + " asked, " + wrong + " wrong");
        if (wrong != 0) {
            System.exit(1);
        }
    }
}
