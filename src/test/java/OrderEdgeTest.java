/** The edges of orders: what the document's Terms say of Mays, pairs, the law, searches, games and letters. */
public final class OrderEdgeTest extends Asking {
    private static final String TWO = "house a weight 1;house b weight 2;";
    /** The greatest int and the least, as a law can tell them. */
    private static final String GREATEST = "(2147 * 1000 * 1000 + 483 * 1000 + 647)";
    private static final String LEAST = "(0 - 2147 * 1000 * 1000 - 483 * 1000 - 648)";

    public static void main(String[] args) {
        ordersAreCompared();
        neighboursByNumberOfHouses();
        theYearThatComes();
        sinceNinetyNine();
        sinceInTheLatest();
        quarrelsAndTheLaw();
        whatTheLawLooksAt();
        wrappingInts();
        divisions();
        ofWhatIsNotZero();
        withoutHouses();
        justAsMuchAsItBears();
        worthOfAnOrder();
        haulRoundTheRing();
        haulOfNobody();
        fairestOfLikeOnes();
        nearestOfLikeOnes();
        liftOfLikeOnes();
        shutByFriends();
        shutByGround();
        maysBySize();
        maysOfLikeOnes();
        maysNow();
        maysOfRingsThatBeginLater();
        maysOfFewOrders();
        games();
        spent();
        ruledByNumberOfHouses();
        ruledWraps();
        placesOfThoseLeft();
        lettersInTwoTimes();
        lettersOfOneThatIsOut();
        sureInAll();
        end("OrderEdgeTest");
    }

    /** Houses of weight 1, so that nothing but their pairs matters. */
    private static String alike(int n) {
        return houses(n).replaceAll("weight \\d+", "weight 1");
    }

    /** "orders are compared by PLACE 0 first, the lesser number first". */
    private static void ordersAreCompared() {
        MayRings x = of(alike(4) + "street;");
        x.first();
        liesThere("the first of all", x, 0, 1, 2, 3);
        int[][] orders = {{0, 1, 2, 3}, {0, 1, 3, 2}, {0, 2, 1, 3}, {0, 2, 3, 1}, {0, 3, 1, 2}, {0, 3, 2, 1}, {1, 0, 2, 3}};
        for (int which = 0; which < orders.length; which++) {
            drawNumber(x, which, 24);
            liesThere("by number " + which, x, orders[which]);
        }
        drawNumber(x, 23, 24);
        liesThere("the last of all", x, 3, 2, 1, 0);
        x = of(THREE + "street;bears 2 9 9;quarrel a b;");
        x.first();
        liesThere("place 0 first", x, 0, 2, 1);
        x = of(THREE + "street;bears 2 2 9;");
        x.first();
        liesThere("place 0 first", x, 0, 1, 2);
    }

    /** Seeds w so that the next draw is the one wanted. */
    private static void drawNumber(MayRings x, int which, int of) {
        for (int seed = 0; seed < 100000; seed++) {
            int w = seed * 1103515245 + 12345;
            if ((w >>> 16) % of == which) {
                x.seed(seed);
                due("the draw", x.drawn(), which);
                return;
            }
        }
        due("a seed for " + which, 0, 1);
    }

    /** "NEIGHBOURS stand at PLACES p and p + 1; in a ring of three HOUSES or more those at the last and the first". */
    private static void neighboursByNumberOfHouses() {
        for (int n = 0; n <= 9; n++) {
            due("pairs in a ring of " + n, of(houses(n) + "law 0;").lift(), n < 3 ? Math.max(0, n - 1) : n);
            due("pairs in a street of " + n, of(houses(n) + "law 0;street;").lift(), Math.max(0, n - 1));
        }
        for (int n = 2; n <= 9; n++) {
            MayRings ring = of(houses(n) + "law 1;");
            MayRings street = of(houses(n) + "law 1;street;");
            for (int house = 0; house < n; house++) {
                ring.tell(house);
                street.tell(house);
            }
            due("a May of " + n, ring.up(), 1);
            due("a May of " + n, street.up(), 1);
            for (int a = 0; a < n; a++) {
                for (int b = 0; b < a; b++) {
                    boolean ends = a == n - 1 && b == 0;
                    due("neighbours in a ring", ring.since(a, b), a - b == 1 || ends ? 1 : 99);
                    due("neighbours in a street", street.since(a, b), a - b == 1 ? 1 : 99);
                }
            }
        }
    }

    /** "A MAY that comes has the next YEAR (the first 1)"; "year: the YEAR that comes". */
    private static void theYearThatComes() {
        for (int year = 1; year <= 4; year++) {
            MayRings x = of(TWO + "law year < 4 or year = 5;street;");
            for (int i = 1; i < year; i++) {
                due("the year", drawUp(x, 0, 1), i);
            }
            due("law of year " + year, x.let(0, 1), year < 4 ? 1 : 0);
        }
        MayRings x = of(TWO + "law year = 201;");
        x.burns(0, true);
        for (int year = 1; year <= 200; year++) {
            x.tell(1);
            x.up();
        }
        x.burns(0, false);
        due("200 years", x.about(2), 200);
        due("the 201st would come", x.let(0, 1), 1);
    }

    /** "SINCE of two: how many MAYS ago (1 in the latest), 99 if never, or more than 99 ago". */
    private static void sinceNinetyNine() {
        MayRings x = of(TWO);
        due("never", x.since(0, 1), 99);
        due("never: let", x.let(0, 1), 1);
        drawUp(x, 0, 1);
        due("in the latest", x.since(0, 1), 1);
        x.burns(0, true);
        for (int year = 2; year <= 97; year++) {
            drawUp(x, 1);
        }
        int[] since = {98, 99, 99, 99};
        for (int i = 0; i < since.length; i++) {
            due("a May of one", drawUp(x, 1), 98 + i);
            x.burns(0, false);
            due("since in year " + (98 + i), x.since(0, 1), since[i]);
            due("since = 99 in year " + (98 + i), x.let(0, 1), i == 0 ? 0 : 1);
            x.burns(0, true);
        }
        x.burns(0, false);
        due("neighbours again", drawUp(x, 1, 0), 102);
        due("neighbours again", x.since(1, 0), 1);
    }

    /** It is the last time that counts, and Mays count in which the two were not there. */
    private static void sinceInTheLatest() {
        MayRings x = of(alike(4) + "street;law 1;");
        drawUp(x, 0, 1, 2, 3);
        drawUp(x, 3, 1, 0, 2);
        due("once more", x.since(0, 1), 1);
        due("once", x.since(1, 2), 2);
        due("once", x.since(2, 0), 1);
        x.burns(3, true);
        x.up();
        due("nothing was told: no May", x.about(2), 2);
        drawUp(x, 1, 0, 2);
        due("a May without one", x.since(1, 2), 3);
        x.burns(3, false);
        due("a May without one", x.since(3, 1), 2);
        due("a May without one", x.since(3, 2), 3);
        due("never", x.since(3, 0), 99);
    }

    private static void law(String law, int want) {
        MayRings x = of("house a weight 7;house b weight 3;wish b a worth 5;law " + law + ";");
        due("law " + law, x.let(0, 1), want);
        due("law " + law, x.let(1, 0), want);
    }

    /** "Two are LET, if they have no quarrel, and e is not 0". */
    private static void quarrelsAndTheLaw() {
        due("no quarrel, and e", of(TWO + "law 1;").let(0, 1), 1);
        due("a quarrel, and e", of(TWO + "quarrel a b;law 1;").let(0, 1), 0);
        due("no quarrel, not e", of(TWO + "law 0;").let(0, 1), 0);
        due("a quarrel, not e", of(TWO + "quarrel b a;law 0;").let(1, 0), 0);
        law("0 - 1", 1);
        law("1", 1);
        law("0", 0);
        law("9999", 1);
        law("1 - 1", 0);
    }

    /** "light, heavy: the lesser and the greater weight; since; worth: of their wish, 0 without one". */
    private static void whatTheLawLooksAt() {
        law("light = 3 and heavy = 7 and worth = 5 and since = 99 and year = 1", 1);
        MayRings x = of("house a weight 4;house b weight 4;house c weight 5;wish a c worth 99;"
                + "law light = 4 and heavy = 4 and worth = 0;");
        due("the same weight", x.let(0, 1), 1);
        due("another", x.let(1, 2), 0);
        x = of(THREE + "wish b c worth 99;law worth = 99;");
        due("their wish", x.let(2, 1), 1);
        due("another's wish", x.let(0, 1), 0);
        x = of(alike(4) + "street;law since = 2 or year < 3;");
        drawUp(x, 0, 1, 2, 3);
        drawUp(x, 1, 3, 0, 2);
        due("two Mays ago", x.let(0, 1), 1);
        due("one May ago", x.let(1, 3), 0);
    }

    /** "ints, wrapping". */
    private static void wrappingInts() {
        law(GREATEST + " > 0", 1);
        law(GREATEST + " + 1 < 0", 1);
        law(GREATEST + " + 1 = " + LEAST, 1);
        law(LEAST + " < 0", 1);
        law(LEAST + " - 1 = " + GREATEST, 1);
        law("256 * 256 * 256 * 128 = " + LEAST, 1);
        law("256 * 256 * 256 * 256", 0);
        law("256 * 256 * 256 * 255 = 0 - 256 * 256 * 256", 1);
        law("0 - " + LEAST + " = " + LEAST, 1);
        law(LEAST + " < " + GREATEST, 1);
        law(LEAST + " > " + GREATEST, 0);
    }

    /** "/ cut, by 0: 0". */
    private static void divisions() {
        law("7 / 7 = 1", 1);
        law("6 / 7", 0);
        law("13 / 7 = 1", 1);
        law("(0 - 6) / 7 = 0", 1);
        law("(0 - 7) / 2 = 0 - 3", 1);
        law("7 / (0 - 2) = 0 - 3", 1);
        law("(0 - 7) / (0 - 2) = 3", 1);
        law("5 / 0", 0);
        law("5 / 0 = 0", 1);
        law("0 / 0 = 0", 1);
        law("(0 - 5) / 0 = 0", 1);
        law("1 + 5 / 0 = 1", 1);
        law("5 / (year - 1) = 0", 1);
        law(LEAST + " / (0 - 1) = " + LEAST, 1);
        law("9 / 2 / 2 = 2", 1);
        law("9 / 2 * 2 = 8", 1);
    }

    /** "relations, and, or, not are 1 or 0, of what is not 0". */
    private static void ofWhatIsNotZero() {
        law("(2 < 3) = 1 and (3 < 3) = 0 and (4 < 3) = 0", 1);
        law("(2 > 3) = 0 and (3 > 3) = 0 and (4 > 3) = 1", 1);
        law("(2 = 3) = 0 and (3 = 3) = 1", 1);
        law("(5 and 6) = 1 and (5 and 0) = 0 and (0 and 5) = 0 and (0 and 0) = 0", 1);
        law("(5 or 6) = 1 and (5 or 0) = 1 and (0 or 5) = 1 and (0 or 0) = 0", 1);
        law("(2 and 1) = 1 and (4 and 3) = 1", 1);
        law("(not 0) = 1 and (not 1) = 0 and (not 7) = 0 and (not (0 - 1)) = 0", 1);
        law("(not not 7) = 1 and (not not 0) = 0", 1);
        law("((0 - 1) and 1) = 1 and ((0 - 1) or 0) = 1", 1);
        law("1 or 1 and 0", 1);
        law("0 and 1 or 1", 1);
        law("not 0 or 1 and 0", 1);
        law("not 1 = 2", 1);
        law("not 3 < 2 and 1", 1);
        law("10 - 4 - 3 = 3", 1);
        law("1 + 2 * 3 = 7", 1);
        law("2 * 3 + 1 > 6", 1);
    }

    /** "(Without HOUSES the empty ORDER is the one there is.)" */
    private static void withoutHouses() {
        MayRings told = of("");
        MayRings allOut = of(TWO + "bears 0 0;law 0;");
        allOut.burns(0, true);
        allOut.burns(1, true);
        for (MayRings x : new MayRings[] {new MayRings(), told, allOut}) {
            due("it is told", x.judge(0), NONE);
            due("its worth", x.judge(1), 0);
            due("its haul", x.judge(2), 0);
            due("it is lawful", x.lawful(), 1);
            due("none lies there yet", x.take(), NONE);
            due("first", x.first(), 1);
            due("it lies there", x.take(), 0);
            due("it has no place", x.lies(0), NONE);
            due("fairest", x.fairest(), 0);
            due("nearest", x.nearest(), 0);
            due("lift", x.lift(), 0);
            due("shut", x.shut(), 0);
            due("mays", x.mays(), 1);
            due("the first of them lies there", x.take(), 0);
            due("game", x.game(), 1);
            due("drawn", x.drawn(), 0);
            due("a draw of one is a draw", x.about(7), 1103527590);
            due("fits", x.fits(0), 1);
            due("sure", x.sure(0, 0), NONE);
            due("ruled", x.ruled(0, 0), NONE);
            due("up", x.up(), 1);
            due("up again", x.up(), 2);
            due("nobody stands", x.stands(0), NONE);
        }
    }

    /** "no HOUSE weighs more than its PLACE bears". */
    private static void justAsMuchAsItBears() {
        due("just so much", of(THREE + "street;bears 1 2 3;").lawful(), 1);
        due("one less", of(THREE + "street;bears 1 2 2;").lawful(), 0);
        due("one less at place 0", of(THREE + "street;bears 0 3 3;").lawful(), 0);
        due("one more", of(THREE + "street;bears 2 2 3;").lawful(), 2);
        MayRings x = of(THREE + "street;bears 1 2 3;");
        tellAll(x, 0, 1, 2);
        due("just so much", x.judge(0), NONE);
        tellAll(x, 0, 2, 1);
        due("one too much", x.judge(0), 1);
        tellAll(x, 1, 0, 2);
        due("one too much", x.judge(0), 0);
    }

    /** "WORTH of an ORDER: of wishes of NEIGHBOURS, together". */
    private static void worthOfAnOrder() {
        MayRings x = of(TWO + "wish a b worth 99;");
        tellAll(x, 0, 1);
        due("two in a ring are neighbours once", x.judge(1), 99);
        due("two in a ring are neighbours once", x.fairest(), 99);
        x = of(houses(9) + "wish a b worth 99;wish b c worth 99;wish c d worth 99;wish d e worth 99;wish e f worth 99;"
                + "wish f g worth 99;wish g h worth 99;wish h i worth 99;wish i a worth 99;wish a e worth 99;");
        tellAll(x, 0, 1, 2, 3, 4, 5, 6, 7, 8);
        due("all nine of a ring", x.judge(1), 891);
        due("all nine of a ring", x.fairest(), 891);
        liesThere("all nine of a ring", x, 0, 1, 2, 3, 4, 5, 6, 7, 8);
        x = of(alike(4) + "street;wish a d worth 5;wish b c worth 1;quarrel b c;");
        tellAll(x, 0, 1, 2, 3);
        due("an order that is not lawful has its worth, too", x.judge(1), 1);
        due("lawful ones alone are fairest", x.fairest(), 5);
    }

    /** "(round the ring the shorter way)". */
    private static void haulRoundTheRing() {
        for (int n = 2; n <= 9; n++) {
            for (int by = 0; by < n; by++) {
                MayRings ring = of(alike(n) + "law 1;");
                MayRings street = of(alike(n) + "law 1;street;");
                for (MayRings x : new MayRings[] {ring, street}) {
                    x.first();
                    x.take();
                    x.up();
                    for (int place = 0; place < n; place++) {
                        x.tell((place + by) % n);
                    }
                }
                due("all by " + by + " in a ring of " + n, ring.judge(2), n * Math.min(by, n - by));
                due("all by " + by + " in a street of " + n, street.judge(2), 2 * by * (n - by));
            }
        }
        MayRings x = of("house a weight 99;house b weight 1;house c weight 1;house d weight 1;law 1;");
        drawUp(x, 0, 1, 2, 3);
        tellAll(x, 2, 1, 0, 3);
        due("weight * places, half way round", x.judge(2), 99 * 2 + 2);
        tellAll(x, 3, 1, 2, 0);
        due("weight * places, one round the ring", x.judge(2), 99 + 1);
        tellAll(x, 0, 1, 2, 3);
        due("nobody moves", x.judge(2), 0);
    }

    /** "(0 ahead of the first MAY)"; "nobody stands anywhere then till the next MAY (HAUL 0)". */
    private static void haulOfNobody() {
        MayRings x = of(FIVE + "law 1;");
        tellAll(x, 4, 3, 2, 1, 0);
        due("ahead of the first", x.judge(2), 0);
        drawUp(x, 0, 1, 2, 3, 4);
        tellAll(x, 4, 3, 2, 1, 0);
        due("behind the first", x.judge(2), 5 + 2 * 3 + 2 * 2 + 1);
        x.burns(2, true);
        tellAll(x, 4, 3, 1, 0);
        due("one burns", x.judge(2), 0);
        due("nearest", x.nearest(), 0);
        liesThere("nearest", x, 0, 1, 3, 4);
        drawUp(x, 4, 3, 1, 0);
        due("the next May", x.nearest(), 0);
        liesThere("the next May", x, 4, 3, 1, 0);
        x.burns(2, false);
        due("one comes", x.nearest(), 0);
        liesThere("one comes", x, 0, 1, 2, 3, 4);
    }

    /** "FAIREST (most WORTH, of like ones the first)". */
    private static void fairestOfLikeOnes() {
        MayRings x = of(alike(4));
        due("no wishes", x.fairest(), 0);
        liesThere("no wishes", x, 0, 1, 2, 3);
        x = of(alike(4) + "street;wish a c worth 3;wish b d worth 3;");
        due("two wishes", x.fairest(), 6);
        liesThere("two wishes", x, 0, 2, 1, 3);
        x = of(alike(4) + "street;wish a b worth 3;wish a c worth 3;wish a d worth 3;");
        due("two of three", x.fairest(), 6);
        liesThere("two of three", x, 1, 0, 2, 3);
        x = of(alike(4) + "street;wish c d worth 1;wish a b worth 1;quarrel a b;");
        due("one is barred", x.fairest(), 1);
        liesThere("one is barred", x, 0, 2, 3, 1);
    }

    /** "NEAREST (least HAUL, of like ones the first)". */
    private static void nearestOfLikeOnes() {
        MayRings x = of(alike(4) + "street;");
        drawUp(x, 0, 1, 2, 3);
        due("two are left, alike", x.nearest(), 2 + 1 + 1 + 2);
        liesThere("two are left, alike", x, 1, 3, 0, 2);
        x = of("house a weight 9;house b weight 1;house c weight 1;house d weight 1;street;");
        drawUp(x, 0, 1, 2, 3);
        due("the heavy one goes the shorter way", x.nearest(), 9 + 2 + 2 + 1);
        liesThere("the heavy one goes the shorter way", x, 2, 0, 3, 1);
        x = of(alike(3) + "law 1;");
        drawUp(x, 2, 1, 0);
        due("where they are", x.nearest(), 0);
        liesThere("where they are", x, 2, 1, 0);
        x = of(TWO);
        drawUp(x, 1, 0);
        x.first();
        due("none is lawful", x.nearest(), NONE);
        due("none lies there", x.take(), NONE);
    }

    /** "LIFT: the fewest NEIGHBOURS are not LET; of like ones the first". */
    private static void liftOfLikeOnes() {
        MayRings x = of(alike(4) + "street;quarrel a b;quarrel b c;quarrel b d;");
        due("one at an end", x.lift(), 1);
        liesThere("one at an end", x, 0, 2, 3, 1);
        x = of(alike(4) + "quarrel a b;quarrel c d;");
        due("none has to be let", x.lift(), 0);
        liesThere("none has to be let", x, 0, 2, 1, 3);
        x = of(alike(4) + "street;law 0;bears 1 1 1 0;");
        x.first();
        due("each has one too heavy", x.lift(), NONE);
        liesThere("each has one too heavy", x);
        due("nothing lies there", x.take(), NONE);
        x = of(TWO + "quarrel a b;");
        due("two in a ring", x.lift(), 1);
        liesThere("two in a ring", x, 0, 1);
        x = of(TWO + "quarrel a b;bears 2 1;");
        due("ground goes first", x.lift(), 1);
        liesThere("ground goes first", x, 1, 0);
        due("alone", of(houses(1) + "law 0;").lift(), 0);
    }

    /** "fewer others with whom they are LET than NEIGHBOURS they need (2; 1 with two; in a street 1; none alone)". */
    private static void shutByFriends() {
        due("alone in a ring", of(houses(1) + "law 0;").shut(), 0);
        due("alone in a street", of(houses(1) + "law 0;street;").shut(), 0);
        due("two in a ring, one friend", of(TWO).shut(), 0);
        due("two in a ring, none", of(TWO + "law 0;").shut(), 3);
        due("two in a street, one friend", of(TWO + "street;").shut(), 0);
        due("two in a street, none", of(TWO + "law 0;street;").shut(), 3);
        due("three in a ring, two friends", of(THREE).shut(), 0);
        due("three in a ring, one friend", of(THREE + "quarrel b c;").shut(), 6);
        due("three in a street, one friend", of(THREE + "quarrel b c;street;").shut(), 0);
        due("three in a street, none", of(THREE + "quarrel b c;quarrel a b;street;").shut(), 2);
        String nine = houses(9) + "quarrel i a;quarrel i b;quarrel i c;quarrel i d;quarrel i e;quarrel i f;";
        due("nine in a ring, two friends", of(nine).shut(), 0);
        due("nine in a ring, one friend", of(nine + "quarrel i g;").shut(), 256);
        due("nine in a street, one friend", of(nine + "quarrel i g;street;").shut(), 0);
        due("nine in a street, none", of(nine + "quarrel i g;quarrel i h;street;").shut(), 256);
        MayRings x = of(THREE + "quarrel b c;");
        x.burns(0, true);
        due("two are left that quarrel", x.shut(), 6);
        x.burns(1, true);
        due("one is left", x.shut(), 0);
        x.burns(0, false);
        due("two are left that are let", x.shut(), 0);
    }

    /** "or that no PLACE bears". */
    private static void shutByGround() {
        due("just so much", of(THREE + "bears 0 3 0;").shut(), 0);
        due("one less", of(THREE + "bears 0 2 0;").shut(), 4);
        due("nothing", of(THREE + "bears 0 0 0;").shut(), 7);
        due("the first place", of(THREE + "bears 3 0 0;").shut(), 0);
        due("the last place", of(THREE + "bears 0 0 3;").shut(), 0);
        due("both reasons", of(THREE + "bears 0 2 0;quarrel a b;").shut(), 7);
        MayRings x = of(THREE + "bears 0 0 3;");
        x.burns(0, true);
        due("a place that is not there bears none", x.shut(), 6);
        x.burns(0, false);
        due("a place that is there again", x.shut(), 0);
    }

    /** "MAYS: the most ORDERS, LAWFUL now, no two of which have the same two as NEIGHBOURS". */
    private static void maysBySize() {
        int[] rings = {1, 1, 1, 1, 1, 2, 2, 3};
        int[] streets = {1, 1, 1, 1, 2, 2, 3, 3};
        for (int n = 0; n <= 7; n++) {
            due("rings of " + n, of(houses(n)).mays(), rings[n]);
            due("streets of " + n, of(houses(n) + "street;").mays(), streets[n]);
        }
        MayRings x = of(houses(4));
        x.mays();
        liesThere("a ring of four", x, 0, 1, 2, 3);
        x = of(THREE + "law 0;");
        x.lift();
        due("none is lawful", x.mays(), 0);
        due("none lies there", x.take(), NONE);
        x = of("house a weight 1;law 0;");
        due("one alone has no neighbours", x.mays(), 1);
        liesThere("one alone", x, 0);
        due("one alone, too heavy", of("house a weight 1;bears 0;").mays(), 0);
    }

    /** "of like ones the least ORDERS, first one by one (each the first that may be)". */
    private static void maysOfLikeOnes() {
        MayRings x = of(houses(4) + "street;");
        due("two streets of four", x.mays(), 2);
        liesThere("the first order leads", x, 0, 1, 2, 3);
        x = of(houses(4) + "street;quarrel a b;");
        due("one street", x.mays(), 1);
        liesThere("the first lawful one", x, 0, 2, 1, 3);
        x = of(FIVE + "street;quarrel a b;quarrel a c;");
        due("two streets", x.mays(), 2);
        liesThere("not the first lawful one, as it leaves no other", x, 0, 3, 1, 4, 2);
        x = of(alike(5) + "bears 1 1 1 1 1;");
        due("two rings", x.mays(), 2);
        liesThere("a ring's first turn", x, 0, 1, 2, 3, 4);
    }

    /** A ring that can't begin with house 0 is another order, with the pair that closes it. */
    private static void maysOfRingsThatBeginLater() {
        String light = "house a weight 2;house b weight 1;house c weight 1;house d weight 1;house e weight 1;bears 1 2 2 2 2;";
        MayRings x = of(light);
        due("place 0 is not for the first", x.mays(), 2);
        liesThere("place 0 is not for the first", x, 1, 0, 2, 3, 4);
        x = of(light + "quarrel b e;");
        due("one pair is barred", x.mays(), 1);
        liesThere("one pair is barred", x, 1, 0, 2, 4, 3);
        due("one pair is barred", x.game(), 1);
        x = of(light + "quarrel a c;quarrel b d;quarrel c e;");
        due("one ring is left of two", x.mays(), 1);
        due("one ring is left of two", x.game(), 1);
        due("a pair that has to close is barred", of(light + "quarrel b c;quarrel b d;quarrel b e;").mays(), 0);
    }

    /** A house for each weight, a, b, c and so on; then what places bear, and what else is told. */
    private static String ofWeights(String weights, String bears, String rest) {
        StringBuilder text = new StringBuilder();
        for (int i = 0; i < weights.length(); i++) {
            text.append("house ").append((char) ('a' + i)).append(" weight ").append(weights.charAt(i)).append(";");
        }
        return text + "bears " + bears + ";" + rest;
    }

    /** Where ground leaves few orders, all hangs on the only ones that share nothing. */
    private static void maysOfFewOrders() {
        MayRings x = of(ofWeights("212121", "3 1 2 2 1 2",
                "quarrel d b;quarrel e a;quarrel e b;quarrel e c;quarrel f c;street;"));
        due("one behind the other", x.mays(), 2);
        liesThere("one behind the other", x, 1, 5, 0, 2, 3, 4);
        x = of(ofWeights("2233142", "4 4 2 4 1 5 3", ""));
        due("three rings", x.mays(), 3);
        liesThere("three rings", x, 0, 1, 6, 2, 4, 5, 3);
        x = of(ofWeights("3241221", "2 1 2 2 5 5 5", ""));
        due("three rings", x.mays(), 3);
        liesThere("three rings", x, 1, 3, 4, 5, 0, 2, 6);
        x = of(ofWeights("3133131", "4 3 1 4 4 2 2", "quarrel b a;street;"));
        due("three streets, whichever the second is", x.game(), 1);
        due("three streets, whichever the second is", x.mays(), 3);
        due("three streets, whichever the second is",
                of(ofWeights("1222221", "3 2 2 1 3 2 1", "quarrel f c;quarrel g f;street;")).game(), 1);
        due("three streets, whichever the second is",
                of(ofWeights("2332311", "2 2 3 1 2 3 3", "quarrel g c;street;")).game(), 1);
    }

    /** MAYS and GAME look at what the law lets now. */
    private static void maysNow() {
        MayRings x = of(FIVE);
        drawUp(x, 0, 1, 2, 3, 4);
        due("one ring is left", x.mays(), 1);
        liesThere("one ring is left", x, 0, 2, 4, 1, 3);
        due("one ring is left", x.game(), 1);
        x.take();
        x.up();
        due("none is left", x.mays(), 0);
        due("none is left", x.game(), 0);
        x = of(FIVE + "law 1;");
        drawUp(x, 0, 1, 2, 3, 4);
        due("the law lets all again", x.mays(), 2);
        due("the law lets all again", x.game(), 0);
    }

    /** "who can't loses: 1 if who begins wins, else 0". */
    private static void games() {
        int[] rings = {1, 1, 1, 1, 1, 0, 0, 0};
        for (int n = 0; n <= 7; n++) {
            due("a game of rings of " + n, of(houses(n)).game(), rings[n]);
        }
        int[] streets = {1, 1, 1, 1, 0, 0, 0, 0};
        for (int n = 0; n <= 7; n++) {
            due("a game of streets of " + n, of(houses(n) + "street;").game(), streets[n]);
        }
        due("none is lawful", of(THREE + "law 0;").game(), 0);
        due("alone, too heavy", of("house a weight 1;bears 0;").game(), 0);
        due("one alone is drawn up once", of("house a weight 1;").game(), 1);
        due("who begins picks one that leaves none", of(FIVE + "street;quarrel a b;quarrel a c;").game(), 1);
    }

    /** "Both: SPENT with more than 7 HOUSES." */
    private static void spent() {
        for (int n = 7; n <= 9; n++) {
            MayRings x = of(houses(n) + "law 0;");
            x.lift();
            due("mays of " + n, x.mays(), n > 7 ? -2 : 0);
            due("none lies there", x.lies(0), NONE);
            due("none lies there", x.take(), NONE);
            due("game of " + n, x.game(), n > 7 ? -2 : 0);
        }
        MayRings x = of(houses(9) + "street;");
        x.burns(0, true);
        due("eight are left", x.mays(), -2);
        due("eight are left", x.game(), -2);
        x.burns(8, true);
        due("seven are left", x.mays(), 3);
        liesThere("seven are left", x, 1, 2, 3, 4, 5, 6, 7);
        x.burns(8, false);
        x.first();
        due("eight again", x.mays(), -2);
        due("none lies there", x.lies(0), NONE);
    }

    /** "of an odd number n of HOUSES (3 or more), i 0 .. (n - 1) / 2 - 1". */
    private static void ruledByNumberOfHouses() {
        for (int n = 0; n <= 9; n++) {
            MayRings x = of(houses(n));
            boolean can = n >= 3 && n % 2 == 1;
            int last = (n - 1) / 2 - 1;
            due("ruled(0, 0) of " + n, x.ruled(0, 0), can ? n - 1 : NONE);
            if (can) {
                due("the last i of " + n, x.ruled(last, 0), n - 1);
                due("the last i of " + n, x.ruled(last, n - 1) >= 0, true);
            }
            due("beyond the last i of " + n, x.ruled(last + 1, 0), NONE);
            due("i below 0", x.ruled(-1, 0), NONE);
            due("a place below 0", x.ruled(0, -1), NONE);
            due("a place too many of " + n, x.ruled(0, n), NONE);
        }
        MayRings x = of(houses(9));
        x.burns(0, true);
        due("one is out", x.ruled(0, 0), NONE);
        x.burns(8, true);
        due("an odd number are left, some are out", x.ruled(0, 0), NONE);
        x.burns(0, false);
        x.burns(8, false);
        due("none is out", x.ruled(0, 0), 8);
    }

    /** "modulo n - 1 (from 0 to n - 2)". */
    private static void ruledWraps() {
        int[] three = {2, 0, 1};
        int[][] five = {{4, 0, 1, 3, 2}, {4, 1, 2, 0, 3}};
        int[][] nine = {{8, 0, 1, 7, 2, 6, 3, 5, 4}, {8, 1, 2, 0, 3, 7, 4, 6, 5}, {8, 2, 3, 1, 4, 0, 5, 7, 6},
            {8, 3, 4, 2, 5, 1, 6, 0, 7}};
        for (int place = 0; place < 3; place++) {
            due("ring of three", of(houses(3)).ruled(0, place), three[place]);
        }
        MayRings x = of(houses(5));
        for (int i = 0; i < 2; i++) {
            for (int place = 0; place < 5; place++) {
                due("ring of five, " + i + " " + place, x.ruled(i, place), five[i][place]);
            }
        }
        x = of(houses(9) + "street;law 0;bears 0 0 0 0 0 0 0 0 0;");
        for (int i = 0; i < 4; i++) {
            for (int place = 0; place < 9; place++) {
                due("nine, " + i + " " + place, x.ruled(i, place), nine[i][place]);
            }
        }
    }

    /** "PLACES are as many as there are HOUSES now, the first of them; HOUSES keep their numbers". */
    private static void placesOfThoseLeft() {
        MayRings x = of(alike(4) + "bears 9 9 9 0;");
        due("one place bears nothing", x.lawful(), 0);
        x.burns(1, true);
        due("it is not there", x.lawful(), 6);
        x.first();
        liesThere("numbers are kept", x, 0, 2, 3);
        x.take();
        x.up();
        due("who stands there", x.stands(2), 3);
        due("place 3 is none", x.stands(3), NONE);
        due("a ring of three closes", x.since(0, 3), 1);
        x = of(alike(4) + "law 0;bears 0 9 9 9;");
        x.burns(0, true);
        x.burns(1, true);
        x.burns(2, true);
        due("the first place is the one", x.lawful(), 0);
        x = of(THREE + "wish a c worth 8;law since > 1;");
        x.burns(1, true);
        tellAll(x, 2, 0);
        due("two are an order", x.judge(1), 8);
        due("two in a ring", x.up(), 1);
        due("two in a ring", x.since(0, 2), 1);
        due("two in a ring", x.lawful(), 0);
    }

    /** "As known at k those count that were TOLD at k or before, not UNTOLD at k or before." */
    private static void lettersInTwoTimes() {
        MayRings x = of(alike(4));
        x.later(10);
        x.at(0, 0, true);
        x.later(10);
        x.untell(0);
        x.later(10);
        x.at(1, 0, true);
        int[] ks = {Integer.MIN_VALUE, -1, 0, 9, 10, 11, 19, 20, 21, 29, 30, 31, Integer.MAX_VALUE};
        int[] fits = {24, 24, 24, 24, 6, 6, 6, 24, 24, 24, 6, 6, 6};
        for (int i = 0; i < ks.length; i++) {
            due("as known at " + ks[i], x.fits(ks[i]), fits[i]);
        }
        x.untell(1);
        due("told and untold at the same time", x.fits(30), 24);
        due("told and untold at the same time", x.fits(29), 24);
        due("told and untold at the same time", x.fits(Integer.MAX_VALUE), 24);
        due("what was known stays known", x.fits(15), 6);
        x = of(alike(4));
        x.at(0, 0, true);
        due("told at 0, at first", x.fits(-1), 24);
        due("told at 0, at first", x.fits(0), 6);
        x.later(0);
        x.untell(0);
        due("untold at 0, too", x.fits(0), 24);
    }

    /** "(one that is out is nobody's, and nowhere)". */
    private static void lettersOfOneThatIsOut() {
        MayRings x = of(alike(4) + "street;");
        x.beside(0, 1, true);
        x.later(1);
        x.untell(0);
        x.beside(0, 1, false);
        x.later(1);
        x.untell(1);
        x.at(0, 1, true);
        x.later(1);
        x.untell(2);
        x.at(0, 1, false);
        int[] all = {12, 12, 6, 18};
        int[] out = {0, 6, 0, 6};
        for (int k = 0; k < 4; k++) {
            due("all are there, at " + k, x.fits(k), all[k]);
        }
        x.burns(0, true);
        for (int k = 0; k < 4; k++) {
            due("one is out, at " + k, x.fits(k), out[k]);
            due("one is out, at " + k, x.sure(1, k), out[k] == 0 ? NONE : 0);
        }
        x.burns(0, false);
        x.burns(1, true);
        due("the other is out", x.fits(0), 0);
        due("the other is out", x.fits(1), 6);
        due("the place is there", x.fits(2), 2);
        x.burns(2, true);
        x.burns(3, true);
        due("the place is gone", x.fits(2), 0);
        due("the place is gone", x.fits(3), 1);
    }

    /** "SURE of a HOUSE: those beside it in all that FIT." */
    private static void sureInAll() {
        MayRings x = of(alike(4));
        due("nothing is sure", x.sure(0, 0), 0);
        x.beside(0, 1, true);
        due("one", x.sure(0, 0), 2);
        due("the other", x.sure(1, 0), 1);
        due("of a third nothing", x.sure(2, 0), 8);
        x.beside(0, 2, false);
        due("the last is sure then", x.sure(0, 0), 10);
        due("all of it", x.sure(3, 0), 5);
        x = of(alike(4) + "street;");
        x.at(0, 0, true);
        x.at(1, 3, true);
        due("ends are no neighbours in a street", x.sure(0, 0), 0);
        x.at(2, 1, false);
        due("what is left is sure", x.sure(0, 0), 8);
        due("what is left is sure", x.sure(2, 0), 10);
        due("of two in a ring the other", of(TWO).sure(1, 0), 1);
        due("of three in a ring both", of(THREE).sure(1, 0), 5);
        due("of three in a street none", of(THREE + "street;").sure(1, 0), 0);
        due("none fits", of(THREE + "law 0;").sure(1, 0), NONE);
        due("house 8 of nine", of(houses(9) + "bears 9 8 8 8 8 8 8 8 8;").sure(8, 0), 0);
    }
}
