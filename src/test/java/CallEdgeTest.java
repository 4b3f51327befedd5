/** The edges of calls: what the promises refuse, what stays then, and the last number that is not refused. */
public final class CallEdgeTest extends Asking {
    /** A call with its answer; a boolean counts 1 or 0. */
    private interface Call {
        long of(MayRings x);
    }

    private static final String VALLEY = FIVE + "street;wish a c worth 4;wish a e worth 6;law since > 1;";

    public static void main(String[] args) {
        feedToTheLastByte();
        feedOrderOfBytes();
        endOfTheTape();
        refusedCallsOfTape();
        valleyFaultStaysAll();
        valleyBeginsAnew();
        pairsThatAreNone();
        refusedTells();
        tellsToTheLast();
        judgeOfNoOrder();
        judgeFirstPlace();
        searchesThatFindNone();
        searchesChangeNothingElse();
        oneSearchBehindAnother();
        drawsByNumber();
        placesOfWhatLies();
        refusedTakesAndUps();
        upToTwoHundred();
        refusedBurns();
        burnsForgets();
        refusedLetters();
        twentyLetters();
        refusedUntells();
        timeToTheLast();
        refusedSures();
        refusedImagesAndBacks();
        threeBoxes();
        imagesKeep();
        seedsOfAnySize();
        aboutAll();
        wildNumbers();
        end("CallEdgeTest");
    }

    /** An object of which everything can be asked: two Mays, an image, letters, something told, something lying. */
    private static MayRings rich() {
        MayRings x = of(VALLEY);
        drawUp(x, 0, 1, 2, 3, 4);
        x.seed(77);
        x.image(1);
        x.burns(4, true);
        drawUp(x, 2, 0, 3, 1);
        x.later(3);
        x.beside(0, 1, true);
        x.at(2, 1, false);
        x.later(2);
        x.untell(0);
        x.lift();
        x.tell(2);
        x.tell(0);
        put(x, "house x weight 1;hou");
        return x;
    }

    /** What is asked is answered so, and nothing is then other than without that call. */
    private static void refused(String what, Call call, long want) {
        MayRings asked = rich();
        MayRings other = rich();
        due(what, call.of(asked), want);
        due(what + ": fault(0)", asked.fault(0), other.fault(0));
        alike(what, asked, other);
    }

    private static void alike(String what, MayRings x, MayRings other) {
        same(what, view(x), view(other));
        for (int box = 0; box < 3; box++) {
            due(what + ": back(" + box + ")", x.back(box), other.back(box));
        }
        same(what + ", back", view(x), view(other));
        due(what + ": end(17)", x.end(17), other.end(17));
        due(what + ": valley()", x.valley(), other.valley());
        same(what + ", valley", view(x), view(other));
    }

    private static int blank20(MayRings x) {
        return x.feed(0x20202020, 0x20202020, 0x20202020, 0x20202020, 0x20202020);
    }

    /** 2: "NONE, and nothing comes, if there would be more than 1,600". */
    private static void feedToTheLastByte() {
        MayRings x = new MayRings();
        for (int i = 1; i <= 80; i++) {
            due("2: feed", blank20(x), 20 * i);
        }
        for (int length = 1600; length > 1580; length--) {
            due("2: end", x.end(length), length);
            due("2: no room for twenty behind " + length, blank20(x), NONE);
            due("2: nothing comes", x.about(6), length);
        }
        due("2: end", x.end(1580), 1580);
        due("2: just room", blank20(x), 1600);
        due("2: none behind it", blank20(x), NONE);
        due("2: end", x.end(1579), 1579);
        due("2: more than room", blank20(x), 1599);
    }

    /** 2: "of each number the highest first", "behind those on the TAPE". */
    private static void feedOrderOfBytes() {
        MayRings x = new MayRings();
        due("2: feed", x.feed(0x73747265, 0x65743b20, 0x20202020, 0x20202020, 0x20202024), 20);
        due("2: the last byte is the last", x.valley(), NONE);
        due("2: the last byte is the last", x.fault(1), 19);
        due("2: a byte above 127", x.feed(0xff000000, 0, 0, 0, 0), 40);
        x.end(20);
        x.feed(0x20202020, 0x20202020, 0x20202020, 0x20202020, 0x202020ff);
        x.valley();
        due("2: the first fault stays the first", x.fault(1), 19);
        x.end(0);
        x.feed(0x20202020, 0x20202020, 0x20202020, 0x20202020, 0x202020ff);
        x.valley();
        due("2: a byte above 127 is one byte", x.fault(1), 19);
        x.end(7);
        due("2: behind those there are", x.feed(0x73747265, 0x65743b20, 0x20202020, 0x20202020, 0x20202020), 27);
        due("2: behind those there are", x.valley(), 0);
        due("2: behind those there are", x.about(9), 1);
        int[] places = {0x24202020, 0x20242020, 0x20202420, 0x20202024};
        for (int i = 0; i < 4; i++) {
            x.feed(0x20202020, places[i], 0x20202020, 0x20202020, 0x20202020);
            x.valley();
            due("2: byte " + i + " of the second", x.fault(1), 4 + i);
            x.end(0);
        }
    }

    /** 3: "NONE, doing nothing, if it has not so many, or n is below 0". */
    private static void endOfTheTape() {
        MayRings x = new MayRings();
        due("3: of none, none", x.end(0), 0);
        due("3: of none, one", x.end(1), NONE);
        put(x, "street;house a weight 1;");
        due("3: all", x.end(24), 24);
        due("3: one more", x.end(25), NONE);
        due("3: below 0", x.end(-1), NONE);
        due("3: it has them still", x.about(6), 24);
        due("3: one less", x.end(23), 23);
        due("3: gone is gone", x.end(24), NONE);
        due("3: its first n", x.end(7), 7);
        due("3: its first n", x.valley(), 0);
        due("3: its first n", x.about(9), 1);
        due("3: empty behind valley()", x.end(1), NONE);
        due("3: empty behind valley()", x.end(0), 0);
    }

    private static void refusedCallsOfTape() {
        refused("3: end(21) of 20", x -> x.end(21), NONE);
        refused("3: end(-1)", x -> x.end(-1), NONE);
        refused("3: end of the least", x -> x.end(Integer.MIN_VALUE), NONE);
        refused("3: end of the greatest", x -> x.end(Integer.MAX_VALUE), NONE);
        refused("3: end(20) of 20", x -> x.end(20), 20);
        refused("5: fault(2)", x -> x.fault(2), NONE);
        refused("5: fault(-1)", x -> x.fault(-1), NONE);
    }

    /** 4: "NONE: a FAULT (all stays)". */
    private static void valleyFaultStaysAll() {
        refusedValley("house x weight 1;hou", 17);
        refusedValley("house x weight 1;house y weight 2;law 0;bears 0 0;street;$", 57);
        refusedValley("house x weight 1;house y weight 2;quarrel x y;wish x y worth 9;law ", 67);
    }

    private static void refusedValley(String text, int place) {
        MayRings x = rich();
        MayRings other = rich();
        put(x, text);
        put(other, text);
        due("4: a fault", x.valley(), NONE);
        due("4: its place", x.fault(1), place);
        alike("4: all stays", x, other);
        x = rich();
        other = rich();
        put(x, text);
        due("4: a fault", x.valley(), NONE);
        due("4: the tape stays", x.about(6), text.length());
        due("4: a fault again", x.valley(), NONE);
        put(x, "house x weight 1;hou");
        alike("4: all stays", x, other);
    }

    /** 4: "no MAY was, LETTERS are none, nothing is told, none lies there, BOXES are empty; w, the TIME stay". */
    private static void valleyBeginsAnew() {
        for (String text : new String[] {VALLEY, FIVE, "", houses(9)}) {
            MayRings x = rich();
            put(x, text);
            int count = x.valley();
            due("4: houses", x.about(0), count);
            due("4: none is out", x.about(1), count);
            due("4: no May was", x.about(2), 0);
            due("4: nothing is told", x.about(3), 0);
            due("4: no letters", x.about(4), 0);
            due("4: the time stays", x.about(5), 5);
            due("4: the tape is empty", x.about(6), 0);
            due("4: w stays", x.about(7), 77);
            due("4: none lies there", x.lies(0), NONE);
            due("4: none lies there", x.take(), NONE);
            due("4: nobody stands", x.stands(0), NONE);
            for (int box = 0; box < 3; box++) {
                due("4: an empty box", x.back(box), NONE);
            }
            due("4: no letter to untell", x.untell(0), false);
            due("4: none since", x.since(0, 1), count > 1 ? 99 : NONE);
            due("4: its first letter", x.at(0, 0, true), count > 0 ? 0 : NONE);
            due("4: told now", x.fits(4), x.lawful());
        }
    }

    /** 6, 7: "NONE if they are none such, the same, or if one is out". */
    private static void pairsThatAreNone() {
        int[][] none = {{0, 0}, {3, 3}, {0, 5}, {5, 0}, {-1, 0}, {0, -1}, {4, 0}, {0, 4}, {4, 4}, {5, 6}, {0, 32}, {32, 0},
            {Integer.MIN_VALUE, 0}, {0, Integer.MAX_VALUE}};
        for (int[] two : none) {
            refused("6: since(" + two[0] + ", " + two[1] + ")", x -> x.since(two[0], two[1]), NONE);
            refused("7: let(" + two[0] + ", " + two[1] + ")", x -> x.let(two[0], two[1]), NONE);
        }
        MayRings x = rich();
        for (int a = 0; a < 4; a++) {
            for (int b = 0; b < a; b++) {
                due("6: either way", x.since(a, b), x.since(b, a));
                due("7: either way", x.let(a, b), x.let(b, a));
                due("7: since > 1", x.let(a, b), x.since(a, b) > 1 ? 1 : 0);
            }
        }
        x = of(houses(9));
        due("6: the last house", x.since(8, 0), 99);
        due("7: the last house", x.let(8, 7), 1);
        due("6: beyond the last", x.since(9, 0), NONE);
        due("7: beyond the last", x.let(9, 0), NONE);
    }

    /** 8: "NONE, doing nothing, if it is none such, out, or told already". */
    private static void refusedTells() {
        refused("8: tell(5)", x -> x.tell(5), NONE);
        refused("8: tell(-1)", x -> x.tell(-1), NONE);
        refused("8: tell(32)", x -> x.tell(32), NONE);
        refused("8: out", x -> x.tell(4), NONE);
        refused("8: told already, first", x -> x.tell(2), NONE);
        refused("8: told already, last", x -> x.tell(0), NONE);
        MayRings x = rich();
        due("8: another", x.tell(3), 3);
        due("8: the last", x.tell(1), 4);
        due("8: no more", x.tell(1), NONE);
    }

    /** 8, 9: "how many there are", "how many there were". */
    private static void tellsToTheLast() {
        MayRings x = of(houses(9));
        for (int i = 0; i < 9; i++) {
            due("8: no order yet", x.judge(0), -2);
            due("8: how many", x.tell(8 - i), i + 1);
            due("8: how many", x.about(3), i + 1);
        }
        due("8: an order", x.judge(0), NONE);
        for (int house = -1; house < 10; house++) {
            due("8: all are told", x.tell(house), NONE);
        }
        due("9: how many there were", x.hush(), 9);
        due("9: nothing", x.hush(), 0);
        due("9: nothing", x.about(3), 0);
        due("9: no order", x.judge(0), -2);
        due("9: told anew", x.tell(8), 1);
        due("9: one was", x.hush(), 1);
        x = rich();
        x.hush();
        due("9: what lies there stays", x.lies(0) >= 0, true);
    }

    /** 10: "-2 if it is no ORDER, or for another what". */
    private static void judgeOfNoOrder() {
        for (int what = -2; what < 6; what++) {
            int asked = what;
            refused("10: no order", x -> x.judge(asked), -2);
        }
        MayRings x = of(THREE);
        tellAll(x, 0, 1);
        due("10: one is missing", x.judge(0), -2);
        due("10: one is missing", x.judge(1), -2);
        due("10: one is missing", x.judge(2), -2);
        x.tell(2);
        due("10: all", x.judge(0), NONE);
        due("10: worth", x.judge(1), 0);
        due("10: haul", x.judge(2), 0);
        due("10: another what", x.judge(3), -2);
        due("10: another what", x.judge(-1), -2);
        due("10: another what", x.judge(Integer.MIN_VALUE), -2);
        due("10: another what", x.judge(Integer.MAX_VALUE), -2);
        x = of(THREE);
        x.burns(1, true);
        tellAll(x, 0, 2);
        due("10: all that are there", x.judge(0), NONE);
        x = of("");
        due("10: the empty order", x.judge(3), -2);
    }

    /** 10: "the first PLACE that has a HOUSE too heavy for it, or one not LET beside that at the PLACE behind it". */
    private static void judgeFirstPlace() {
        MayRings x = of(FIVE + "quarrel a b;bears 9 9 9 9 4;");
        int[][] orders = {{0, 1, 2, 3, 4}, {2, 0, 1, 3, 4}, {2, 3, 0, 1, 4}, {2, 3, 4, 0, 1}, {1, 2, 3, 4, 0}, {0, 2, 3, 4, 1},
            {0, 2, 1, 3, 4}, {1, 3, 2, 4, 0}, {3, 1, 4, 2, 0}};
        int[] due = {0, 1, 2, 3, 4, 4, NONE, 4, 4};
        for (int i = 0; i < orders.length; i++) {
            tellAll(x, orders[i]);
            due("10: order " + i, x.judge(0), due[i]);
        }
        x = of(FIVE + "quarrel a b;street;");
        tellAll(x, 0, 2, 3, 4, 1);
        due("10: a street's ends", x.judge(0), NONE);
        x = of("house a weight 1;house b weight 2;quarrel a b;");
        tellAll(x, 1, 0);
        due("10: two", x.judge(0), 0);
        x = of("house a weight 1;house b weight 2;bears 2 1;");
        tellAll(x, 0, 1);
        due("10: two, the last too heavy", x.judge(0), 1);
        tellAll(x, 1, 0);
        due("10: two, just so much", x.judge(0), NONE);
        x = of("house a weight 2;bears 1;law 0;");
        x.tell(0);
        due("10: alone, too heavy", x.judge(0), 0);
        x = of("house a weight 2;bears 2;law 0;");
        x.tell(0);
        due("10: alone, beside nobody", x.judge(0), NONE);
        x = of(THREE + "quarrel a c;");
        tellAll(x, 0, 1, 2);
        due("10: a ring of three closes", x.judge(0), 2);
    }

    /** 12 .. 15, 17, 18: "It lies there then (behind 0, NONE: none)". */
    private static void searchesThatFindNone() {
        Call[] calls = {x -> x.first(), x -> x.fairest(), x -> x.nearest(), x -> x.drawn(), x -> x.mays()};
        long[] none = {0, NONE, NONE, NONE, 0};
        for (int i = 0; i < calls.length; i++) {
            MayRings x = of(THREE + "law 0;");
            due("lift", x.lift(), 3);
            due("it lies there", x.lies(0), 0);
            due("search " + i, calls[i].of(x), none[i]);
            due("none lies there", x.lies(0), NONE);
            due("none lies there", x.take(), NONE);
            due("w stays", x.about(7), 1);
        }
        MayRings x = of(THREE + "law year = 1;bears 3 3 3;");
        x.first();
        x.take();
        x.up();
        x.lift();
        due("none is lawful now", x.first(), 0);
        due("none lies there", x.lies(0), NONE);
        x = of(THREE + "bears 2 2 2;");
        due("each has one too heavy", x.lift(), NONE);
        due("none lies there", x.take(), NONE);
    }

    /** What lies there is all that a search changes; a draw changes w, too. */
    private static void searchesChangeNothingElse() {
        Call[] calls = {x -> x.lawful(), x -> x.first(), x -> x.fairest(), x -> x.nearest(), x -> x.lift(), x -> x.shut(),
            x -> x.drawn(), x -> x.mays(), x -> x.game(), x -> x.fits(5), x -> x.sure(0, 5), x -> x.ruled(0, 0),
            x -> x.take(), x -> x.hush()};
        for (int i = 0; i < calls.length; i++) {
            MayRings x = rich();
            MayRings other = rich();
            calls[i].of(x);
            x.seed(77);
            for (MayRings each : new MayRings[] {x, other}) {
                each.lift();
                tellAll(each, 2, 0);
            }
            alike("search " + i, x, other);
        }
        refused("19: game", x -> x.game(), rich().game());
        refused("11: lawful", x -> x.lawful(), rich().lawful());
        refused("16: shut", x -> x.shut(), 0);
    }

    /** What a search finds does not hang on the one ahead of it. */
    private static void oneSearchBehindAnother() {
        Call[] calls = {x -> x.first(), x -> x.fairest(), x -> x.nearest(), x -> x.lift(), x -> x.drawn(), x -> x.mays(),
            x -> x.lawful(), x -> x.shut(), x -> x.game(), x -> x.fits(2), x -> x.sure(1, 2), x -> x.fits(1)};
        int leaveOne = 6;
        for (int i = 0; i < calls.length; i++) {
            for (int j = 0; j < calls.length; j++) {
                MayRings x = searchable();
                MayRings other = searchable();
                calls[i].of(x);
                x.seed(77);
                other.seed(77);
                due("search " + j + " behind " + i, calls[j].of(x), calls[j].of(other));
                for (int place = 0; place < 5 && j < leaveOne; place++) {
                    due("search " + j + " behind " + i + ": lies", x.lies(place), other.lies(place));
                }
            }
        }
    }

    /** Each search finds another order in it. */
    private static MayRings searchable() {
        MayRings x = of(FIVE + "street;law since > 1 or worth > 6;wish a d worth 9;wish c e worth 7;wish b e worth 8;"
                + "quarrel b d;bears 5 5 4 5 5;");
        drawUp(x, 1, 4, 2, 0, 3);
        x.later(1);
        x.beside(0, 3, true);
        x.later(1);
        x.untell(0);
        x.at(1, 0, true);
        return x;
    }

    /** 17: "DRAW of n: w becomes w * 1103515245 + 12345 (wrapping; 1 at first); (w >>> 16) modulo n". */
    private static void drawsByNumber() {
        int[] seeds = {1, 0, -1, 77, Integer.MAX_VALUE, Integer.MIN_VALUE, 123456789, -987654321};
        String[] texts = {"", houses(1), houses(2), THREE, FIVE, houses(9), houses(9) + "street;quarrel a b;"};
        int[] counts = {1, 1, 2, 6, 120, 362880, 362880 - 2 * 40320};
        for (int i = 0; i < texts.length; i++) {
            MayRings x = of(texts[i]);
            due("17: 1 at first", x.about(7), 1);
            due("17: of so many", x.lawful(), counts[i]);
            for (int seed : seeds) {
                x.seed(seed);
                int w = seed * 1103515245 + 12345;
                due("17: which", x.drawn(), (w >>> 16) % counts[i]);
                due("17: w", x.about(7), w);
                x.take();
                due("17: it is lawful", x.judge(0), NONE);
            }
        }
        MayRings x = of(THREE + "law 0;");
        due("17: none", x.drawn(), NONE);
        due("17: without a draw", x.about(7), 1);
        x = of(FIVE);
        int w = 1;
        for (int i = 0; i < 5; i++) {
            w = w * 1103515245 + 12345;
            due("17: one draw behind another", x.drawn(), (w >>> 16) % 120);
        }
    }

    /** 21, 24: "NONE if there is none such", "NONE if none does". */
    private static void placesOfWhatLies() {
        MayRings x = of(houses(9) + "law 1;");
        for (int place = -1; place < 10; place++) {
            due("21: none lies there", x.lies(place), NONE);
            due("24: nobody stands", x.stands(place), NONE);
        }
        x.first();
        x.take();
        x.up();
        for (int place = 0; place < 9; place++) {
            due("21: lies", x.lies(place), place);
            due("24: stands", x.stands(place), place);
        }
        int[] none = {-1, 9, 10, Integer.MIN_VALUE, Integer.MAX_VALUE};
        for (int place : none) {
            due("21: no place", x.lies(place), NONE);
            due("24: no place", x.stands(place), NONE);
        }
        x.burns(8, true);
        for (int place = 0; place < 9; place++) {
            due("21: one burnt", x.lies(place), NONE);
            due("24: one burnt", x.stands(place), NONE);
        }
        x.first();
        due("21: the last place now", x.lies(7), 7);
        due("21: no place now", x.lies(8), NONE);
    }

    /** 22, 23: "NONE, doing nothing, if none lies there"; "if it is no ORDER, not LAWFUL, or there were 200 MAYS". */
    private static void refusedTakesAndUps() {
        MayRings x = of(THREE);
        x.tell(1);
        due("22: none lies there", x.take(), NONE);
        due("22: nothing was done", x.about(3), 1);
        refused("23: no order", y -> y.up(), NONE);
        String[] texts = {FIVE + "law 0;", FIVE + "quarrel c d;", FIVE + "quarrel a e;", FIVE + "bears 4 9 9 9 9;",
            FIVE + "bears 9 9 9 9 0;"};
        for (String text : texts) {
            x = of(text);
            tellAll(x, 0, 1, 2, 3, 4);
            due("23: not lawful", x.up(), NONE);
            due("23: it is told still", x.about(3), 5);
            due("23: no May was", x.about(2), 0);
            due("23: nobody stands", x.stands(0), NONE);
            due("23: none since", x.since(0, 1), 99);
        }
        x = of(FIVE + "quarrel a e;street;bears 5 3 4 2 1;");
        due("23: a street's ends, ground that bears just so much", drawUp(x, 0, 1, 2, 3, 4), 1);
        x = of(THREE);
        tellAll(x, 0, 1, 2);
        x.first();
        due("22: instead of what was told", x.take(), 3);
        due("22: instead of what was told", x.about(3), 3);
        x.tell(1);
        due("22: all are told", x.about(3), 3);
        due("23: up", x.up(), 1);
        due("23: nothing is told", x.about(3), 0);
        due("23: no order", x.up(), NONE);
        due("22: it lies there still", x.take(), 3);
        due("22: lawful no more", x.up(), NONE);
    }

    /** 23: "or there were 200 MAYS". */
    private static void upToTwoHundred() {
        MayRings x = of(houses(1));
        for (int year = 1; year <= 200; year++) {
            x.tell(0);
            due("23: the year", x.up(), year);
        }
        x.tell(0);
        due("23: a 201st", x.up(), NONE);
        due("23: nothing was done", x.about(3), 1);
        due("23: nothing was done", x.about(2), 200);
        due("33: an image of it", x.image(0), 200);
        due("34: back", x.back(0), 200);
        due("34: a 201st", drawUp(x, 0), NONE);
        put(x, houses(1));
        x.valley();
        due("4: years begin anew", drawUp(x, 0), 1);
    }

    /** 25: "false if it is so already, or there is none such". */
    private static void refusedBurns() {
        refused("25: so already: out", x -> x.burns(4, true) ? 1 : 0, 0);
        for (int house = 0; house < 4; house++) {
            int asked = house;
            refused("25: so already: there", x -> x.burns(asked, false) ? 1 : 0, 0);
        }
        int[] none = {-1, 5, 9, 31, 32, 36, Integer.MIN_VALUE, Integer.MAX_VALUE};
        for (int house : none) {
            refused("25: none such", x -> x.burns(house, true) ? 1 : 0, 0);
            refused("25: none such", x -> x.burns(house, false) ? 1 : 0, 0);
        }
        MayRings x = of(houses(9));
        for (int house = 0; house < 9; house++) {
            due("25: burns", x.burns(house, true), true);
            due("25: those left", x.about(1), 8 - house);
            due("25: those told", x.about(0), 9);
        }
        for (int house = 8; house >= 0; house--) {
            due("25: comes", x.burns(house, false), true);
            due("25: those there", x.about(1), 9 - house);
        }
        due("25: all are there", x.lawful(), 362880);
    }

    /** 25: "(What is told of an ORDER is nothing then, none lies there.)"; "nobody stands anywhere then". */
    private static void burnsForgets() {
        for (int house = 3; house <= 4; house++) {
            MayRings x = rich();
            due("25: it stood", x.stands(0), 2);
            due("25: burns or comes", x.burns(house, house == 3), true);
            due("25: nothing is told", x.about(3), 0);
            due("25: none lies there", x.take(), NONE);
            for (int place = 0; place < 5; place++) {
                due("25: nobody stands", x.stands(place), NONE);
                due("25: none lies there", x.lies(place), NONE);
            }
            due("25: years stay", x.about(2), 2);
            due("25: letters stay", x.about(4), 2);
            due("25: w stays", x.about(7), 77);
            due("25: the tape stays", x.about(6), 20);
            due("25: since goes on", x.since(0, 2), 1);
            due("25: since goes on", x.since(1, 2), 2);
            due("34: the image stays", x.back(1), 1);
        }
    }

    /** 26, 27: "NONE, doing nothing, if one can't be". */
    private static void refusedLetters() {
        int[] none = {-1, 5, 9, 32, Integer.MIN_VALUE, Integer.MAX_VALUE};
        for (int house : none) {
            refused("26: none such", x -> x.beside(house, 0, true), NONE);
            refused("26: none such", x -> x.beside(0, house, false), NONE);
            refused("27: none such", x -> x.at(house, 0, true), NONE);
        }
        for (int house = 0; house < 4; house++) {
            int same = house;
            refused("26: with itself", x -> x.beside(same, same, true), NONE);
            refused("26: with itself", x -> x.beside(same, same, false), NONE);
        }
        int[] noPlace = {-1, 9, 10, Integer.MIN_VALUE, Integer.MAX_VALUE};
        for (int place : noPlace) {
            refused("27: no place", x -> x.at(0, place, true), NONE);
            refused("27: no place", x -> x.at(0, place, false), NONE);
        }
        MayRings x = rich();
        for (int place = 0; place < 9; place++) {
            due("27: a place", x.at(0, place, false), 2 + place);
        }
        x = of(houses(9));
        due("26: the last house", x.beside(8, 7, true), 0);
        due("27: the last house and place", x.at(8, 8, true), 1);
        due("26: those that fit", x.fits(0), 10080);
    }

    /** 26, 27: "or there are 20". */
    private static void twentyLetters() {
        for (int sort = 0; sort < 2; sort++) {
            MayRings x = of(FIVE);
            for (int i = 0; i < 20; i++) {
                due("26, 27: its number", i % 2 == sort ? x.beside(0, 1, true) : x.at(0, 0, true), i);
                due("35: letters", x.about(4), i + 1);
            }
            due("26: a 21st", x.beside(2, 3, false), NONE);
            due("27: a 21st", x.at(2, 3, false), NONE);
            due("35: twenty", x.about(4), 20);
            due("30: those that fit", x.fits(0), 2 * 6);
            due("28: the last", x.untell(19), true);
            due("28: beyond the last", x.untell(20), false);
            due("26: untold ones count", x.beside(2, 3, false), NONE);
            due("27: untold ones count", x.at(2, 3, false), NONE);
        }
    }

    /** 28: "false if it is so already, or there is none such". */
    private static void refusedUntells() {
        int[] none = {-1, 2, 19, 20, Integer.MIN_VALUE, Integer.MAX_VALUE};
        for (int letter : none) {
            refused("28: none such", x -> x.untell(letter) ? 1 : 0, 0);
        }
        refused("28: so already", x -> x.untell(0) ? 1 : 0, 0);
        MayRings x = of(FIVE);
        x.at(0, 0, true);
        due("28: the first", x.untell(0), true);
        x.later(1);
        due("28: so already", x.untell(0), false);
        x.at(0, 0, true);
        x.later(1);
        due("30: before it is untold", x.fits(1), 24);
        due("28: the second", x.untell(1), true);
        x.later(1);
        due("28: so already", x.untell(1), false);
        due("30: the first time counts", x.fits(2), 120);
        due("30: and that alone", x.fits(1), 24);
    }

    /** 29: "(0 .. 1000)", "NONE, doing nothing, for another number, or if it would be above 100,000". */
    private static void timeToTheLast() {
        int[] none = {-1, 1001, Integer.MIN_VALUE, Integer.MAX_VALUE};
        for (int by : none) {
            refused("29: another number", x -> x.later(by), NONE);
        }
        refused("29: later(0)", x -> x.later(0), 5);
        MayRings x = of(FIVE);
        due("29: later(1)", x.later(1), 1);
        due("29: later(1000)", x.later(1000), 1001);
        for (int i = 2; i <= 99; i++) {
            x.later(1000);
        }
        due("29: later(999)", x.later(998), 99999);
        due("29: above 100,000", x.later(2), NONE);
        due("29: above 100,000", x.later(1000), NONE);
        due("29: nothing was done", x.about(5), 99999);
        x.at(0, 0, true);
        due("29: 100,000", x.later(1), 100000);
        due("29: above 100,000", x.later(1), NONE);
        due("29: later(0)", x.later(0), 100000);
        x.untell(0);
        due("30: known at the last", x.fits(99998), 120);
        due("30: known at the last", x.fits(99999), 24);
        due("30: known at the last", x.fits(100000), 120);
    }

    /** 31: "NONE if none FITS, or there is no such HOUSE, or it is out". */
    private static void refusedSures() {
        int[] none = {-1, 4, 5, 9, 32, Integer.MIN_VALUE, Integer.MAX_VALUE};
        for (int house : none) {
            refused("31: none such, or out", x -> x.sure(house, 0), NONE);
        }
        for (int house = 0; house < 4; house++) {
            due("31: there", rich().sure(house, 0) >= 0, true);
        }
        MayRings x = of(houses(9));
        due("31: the last house", x.sure(8, 0), 0);
        due("31: beyond the last", x.sure(9, 0), NONE);
        x.at(0, 0, true);
        due("31: one fits", x.sure(0, 0), 0);
        x.at(0, 1, true);
        due("31: none fits", x.sure(0, 0), NONE);
        due("31: it did before", x.sure(0, -1), 0);
    }

    /** 33, 34: "NONE if there is none such"; "NONE, doing nothing, if nothing was". */
    private static void refusedImagesAndBacks() {
        int[] none = {-1, 3, 4, Integer.MIN_VALUE, Integer.MAX_VALUE};
        for (int box : none) {
            refused("33: no box", x -> x.image(box), NONE);
            refused("34: no box", x -> x.back(box), NONE);
        }
        refused("34: nothing was kept", x -> x.back(0), NONE);
        refused("34: nothing was kept", x -> x.back(2), NONE);
    }

    /** 33: "in a BOX 0 .. 2". */
    private static void threeBoxes() {
        MayRings x = of(houses(1) + "law 1;");
        for (int box = 0; box < 3; box++) {
            due("33: the years", x.image(box), box);
            for (int other = box + 1; other < 3; other++) {
                due("34: nothing was kept", x.back(other), NONE);
            }
            due("23: a May", drawUp(x, 0), box + 1);
        }
        for (int box = 0; box < 3; box++) {
            due("34: the years", x.back(box), box);
            due("34: the years", x.about(2), box);
        }
        due("33: over another", x.image(0), 2);
        due("34: the newer", x.back(0), 2);
        due("34: the others stay", x.back(1), 1);
        due("34: more than once", x.back(1), 1);
    }

    /** 33, 34: "MAYS that were (SINCE, where all stand, which are out) and w"; "nothing is told, none lies there". */
    private static void imagesKeep() {
        MayRings x = rich();
        due("34: back", x.back(1), 1);
        int[] about = {5, 5, 1, 0, 2, 5, 20, 77, 2, 1};
        for (int what = 0; what < 10; what++) {
            due("34: about(" + what + ")", x.about(what), about[what]);
        }
        for (int place = 0; place < 5; place++) {
            due("34: where all stand", x.stands(place), place);
            due("34: none lies there", x.lies(place), NONE);
        }
        due("34: none lies there", x.take(), NONE);
        due("34: since", x.since(0, 1), 1);
        due("34: since", x.since(3, 4), 1);
        due("34: since", x.since(0, 2), 99);
        due("34: let", x.let(0, 1), 0);
        due("34: let", x.let(0, 2), 1);
        due("34: letters stay", x.fits(3) < x.lawful(), true);
        x.seed(1);
        x.burns(0, true);
        due("33: one is out", x.image(2), 1);
        x.burns(0, false);
        x.burns(1, true);
        x.seed(2);
        due("34: back", x.back(2), 1);
        due("34: which are out", x.tell(0), NONE);
        due("34: which are out", x.tell(1), 1);
        due("34: where all stand", x.stands(0), NONE);
        due("34: w", x.about(7), 1);
        due("34: the other box", x.back(1), 1);
        due("34: w", x.about(7), 77);
        due("34: none is out", x.about(1), 5);
    }

    /** 32: "w is so much: what it was". */
    private static void seedsOfAnySize() {
        int[] seeds = {0, NONE, Integer.MIN_VALUE, Integer.MAX_VALUE, 1};
        MayRings x = new MayRings();
        int was = 1;
        for (int seed : seeds) {
            due("32: what it was", x.seed(seed), was);
            due("32: so much", x.about(7), seed);
            was = seed;
        }
    }

    /** 35: "NONE for another what (w may be that, too)". */
    private static void aboutAll() {
        int[] about = {5, 4, 2, 2, 2, 5, 20, 77, 2, 1};
        MayRings x = rich();
        for (int what = 0; what < 10; what++) {
            due("35: about(" + what + ")", x.about(what), about[what]);
        }
        int[] none = {-1, 10, 11, Integer.MIN_VALUE, Integer.MAX_VALUE};
        for (int what : none) {
            refused("35: another what", y -> y.about(what), NONE);
        }
        x.seed(NONE);
        due("35: w is NONE", x.about(7), NONE);
    }

    /** No number may make a call fail, in any state. */
    private static void wildNumbers() {
        int[] wild = {Integer.MIN_VALUE, Integer.MIN_VALUE + 1, -33, -2, -1, 0, 8, 9, 31, 32, 33, 512, 1600, Integer.MAX_VALUE};
        for (String text : new String[] {"", houses(1), houses(2) + "street;", houses(9)}) {
            MayRings x = of(text);
            for (int a : wild) {
                x.tell(a);
                x.judge(a);
                x.lies(a);
                x.stands(a);
                x.untell(a);
                x.later(a);
                x.fits(a);
                x.image(a);
                x.back(a);
                x.about(a);
                x.fault(a);
                x.burns(a, true);
                x.burns(a, false);
                x.at(a, a, true);
                x.at(0, a, false);
                x.beside(a, 0, false);
                x.beside(0, a, true);
                x.sure(a, a);
                x.since(a, a);
                x.let(0, a);
                x.ruled(a, 0);
                x.ruled(0, a);
                x.ruled(a, a);
                x.seed(a);
                x.drawn();
                x.feed(a, a, a, a, a);
                x.end(a);
            }
            due("the valley is the same", x.about(0), text.isEmpty() ? 0 : text.split("house").length - 1);
            due("the time", x.about(5), 8 + 9 + 31 + 32 + 33 + 512);
        }
    }
}
