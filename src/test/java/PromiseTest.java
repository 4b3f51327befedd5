/** For each promise of the document: what it says, the edges that it names, and wrong inputs. */
public final class PromiseTest extends Asking {
    public static void main(String[] args) {
        promise1();
        promise2();
        promise3();
        promise4();
        promise4Tokens();
        promise4Lines();
        promise4Law();
        promise5();
        promise6();
        promise7();
        promise7Law();
        promise8and9();
        promise10();
        promise11();
        promise12();
        promise13();
        promise14();
        promise15();
        promise16();
        promise17();
        promise18();
        promise19();
        promise20();
        promise21and22();
        promise23();
        promise24();
        promise25();
        promise26();
        promise27();
        promise28();
        promise29();
        promise30();
        promise31();
        promise32();
        promise33and34();
        promise35();
        end("PromiseTest");
    }

    private static void promise1() {
        MayRings x = new MayRings();
        int[] about = {0, 0, 0, 0, 0, 0, 0, 1, 0, 0};
        for (int what = 0; what < about.length; what++) {
            due("1: about(" + what + ")", x.about(what), about[what]);
        }
        due("1: fault(0)", x.fault(0), 0);
        due("1: fault(1)", x.fault(1), NONE);
        due("1: lies(0)", x.lies(0), NONE);
        due("1: take()", x.take(), NONE);
        due("1: stands(0)", x.stands(0), NONE);
        due("1: back(0)", x.back(0), NONE);
        due("1: the empty order", x.lawful(), 1);
        due("1: the empty order is told", x.judge(0), NONE);
    }

    private static void promise2() {
        MayRings x = new MayRings();
        due("2: feed", x.feed(0x686f7573, 0x65206120, 0x77656967, 0x68742031, 0x3b202020), 20);
        due("2: the highest byte is first", x.valley(), 1);
        for (int i = 1; i <= 80; i++) {
            due("2: feed " + i, x.feed(0x20202020, 0x20202020, 0x20202020, 0x20202020, 0x20202020), 20 * i);
        }
        due("2: feed above 1600", x.feed(0, 0, 0, 0, 0), NONE);
        due("2: nothing came", x.about(6), 1600);
        due("2: blanks alone", x.valley(), 0);
        for (int i = 1; i <= 80; i++) {
            x.feed(0, 0, 0, 0, 0);
        }
        x.end(1581);
        due("2: 1601 are too many", x.feed(0, 0, 0, 0, 0), NONE);
        x.end(1580);
        due("2: 1600 are not", x.feed(0, 0, 0, 0, 0), 1600);
    }

    private static void promise3() {
        MayRings x = new MayRings();
        due("3: end(0)", x.end(0), 0);
        due("3: end(1) of none", x.end(1), NONE);
        x.feed(0, 0, 0, 0, 0);
        due("3: end(21)", x.end(21), NONE);
        due("3: end(-1)", x.end(-1), NONE);
        due("3: nothing was done", x.about(6), 20);
        due("3: end(20)", x.end(20), 20);
        due("3: end(7)", x.end(7), 7);
        due("3: the tape has so many", x.about(6), 7);
        due("3: gone is gone", x.end(8), NONE);
    }

    private static void promise4() {
        MayRings x = of(FIVE + "street;");
        due("4: tape is empty", x.about(6), 0);
        x.seed(77);
        x.later(9);
        x.burns(4, true);
        drawUp(x, 0, 1, 2, 3);
        x.image(1);
        x.beside(0, 1, true);
        x.first();
        x.tell(2);
        put(x, "house x");
        due("4: a fault", x.valley(), NONE);
        due("4: the tape stays", x.about(6), 7);
        due("4: houses stay", x.about(0), 5);
        due("4: years stay", x.about(2), 1);
        due("4: what is told stays", x.about(3), 1);
        due("4: letters stay", x.about(4), 1);
        due("4: what is out stays", x.about(1), 4);
        due("4: the street stays", x.about(9), 1);
        put(x, THREE);
        due("4: houses", x.valley(), 3);
        int[] about = {3, 3, 0, 0, 0, 9, 0, 77, 0, 0};
        for (int what = 0; what < about.length; what++) {
            due("4: about(" + what + ")", x.about(what), about[what]);
        }
        due("4: boxes are empty", x.back(1), NONE);
        due("4: none lies there", x.lies(0), NONE);
        due("4: nobody stands", x.stands(0), NONE);
        due("4: no May was", x.since(0, 1), 99);
        due("4: letters begin anew", x.at(0, 0, true), 0);
        put(x, "");
        due("4: an empty text", x.valley(), 0);
        x = of(THREE + "law 0;bears 1 1 1;quarrel a b;wish a b worth 1;street;");
        x.image(0);
        x.at(0, 0, true);
        for (int i = 0; i < 2; i++) {
            put(x, THREE);
            due("4: three anew", x.valley(), 3);
            due("4: no letter", x.untell(0), false);
            due("4: no box", x.back(0), NONE);
            due("4: nothing is left of another text", x.lawful(), 6);
            due("4: nothing is left of another text", x.fairest(), 0);
            due("4: nothing is left of another text", x.about(9), 0);
            due("4: a second time is none in another text", x.about(8), 0);
            put(x, THREE + "law 1;street;bears 9 9 9;wish a b worth 1;");
            due("4: each once in another text", x.valley(), 3);
        }
    }

    private static void promise4Tokens() {
        faulty("$", 1, 0);
        faulty("house A", 1, 6);
        faulty("house a\tweight 1;", 1, 7);
        faulty("house a weight 1;\u00e9", 1, 17);
        faulty("house abcdefghi weight 1;", 1, 6);
        sound("house abcdefgh weight 1;", 1);
        sound("house az weight 1;house ay weight 1;house a weight 1;quarrel az ay;", 3);
        faulty("house a weight 00001;", 1, 15);
        sound("house a weight 0001;", 1);
        faulty("house a weight 12x;", 1, 15);
        faulty("law 1and 1;", 1, 4);
        sound("law 1 and(1);", 0);
        sound("house\na\nweight1;house b weight2 ; bears9 9;", 2);
        faulty("housea weight 1;", 2, 0);
        sound("house housea weight 1;house wor weight 1;house nota weight 1;", 3);
        // A fault that stands earlier goes first, whatever stands behind it.
        faulty("house house $", 2, 6);
    }

    private static void promise4Lines() {
        for (String word : new String[] {"house", "weight", "bears", "quarrel", "wish", "worth", "street", "law", "or",
            "and", "not", "light", "heavy", "since", "year"}) {
            faulty("house " + word + " weight 1;", 2, 6);
        }
        faulty("a", 2, 0);
        faulty(";", 2, 0);
        faulty("house a weight 1", 2, 16);
        faulty("house a weight 1  ", 2, 18);
        faulty("house a weight 1 5", 2, 17);
        faulty("house a weight;", 2, 14);
        faulty("house a weight 100;", 4, 15);
        sound("house a weight 99;", 1);
        sound(houses(9), 9);
        faulty(houses(9) + "house j weight 1;", 2, 9 * 17);
        faulty("street;house a weight 1;", 2, 7);
        faulty("house a weight 1;law 1;house b weight 1;", 2, 23);
        faulty("street;street;", 2, 7);
        faulty("law 1;law 1;", 2, 6);
        faulty("house a weight 1;bears 1;bears 1;", 2, 25);
        faulty("bears ;", 2, 6);
        faulty("bears 1;", 2, 6);
        faulty(THREE + "bears 1 2;", 2, 60);
        faulty(THREE + "bears 1 2 3 1000;", 2, 63);
        faulty(THREE + "bears 1 2 1000;", 4, 61);
        sound(THREE + "bears 0 999 3;", 3);
        faulty("house a weight 1;house a weight 2;", 3, 23);
        faulty(THREE + "quarrel street a;", 2, 59);
        faulty(THREE + "quarrel a 1;", 2, 61);
        faulty(THREE + "quarrel a;", 2, 60);
        faulty(THREE + "quarrel a b c;", 2, 63);
        faulty(THREE + "quarrel a a;", 3, 61);
        faulty(THREE + "quarrel a d;", 5, 61);
        faulty(THREE + "quarrel d d;", 5, 59);
        faulty(THREE + "quarrel a b;quarrel b a;", 3, 73);
        faulty(THREE + "wish a b worth 1;wish a b worth 2;", 3, 75);
        sound(THREE + "wish a b worth 99;quarrel b a;", 3);
        faulty(THREE + "wish a b worth 0;", 4, 66);
        faulty(THREE + "wish a b worth 100;", 4, 66);
        faulty(THREE + "wish a b;", 2, 59);
        StringBuilder many = new StringBuilder(houses(9));
        int told = 0;
        for (int a = 0; a < 9 && told < 20; a++) {
            for (int b = 0; b < a && told < 20; b++, told++) {
                many.append("quarrel ").append((char) ('a' + a)).append(" ").append((char) ('a' + b)).append(";");
            }
        }
        sound(many.toString(), 9);
        faulty(many + "quarrel i h;", 2, many.length());
        String wishes = many.toString().replaceAll("quarrel (.) (.);", "wish $1 $2 worth 1;");
        sound(wishes, 9);
        faulty(wishes + "wish i h worth 1;", 2, wishes.length());
        sound(wishes + "quarrel i h;", 9);
    }

    private static void promise4Law() {
        faulty("law ;", 2, 4);
        faulty("law 1 < 2 < 3;", 2, 10);
        faulty("law 1 + not 1;", 2, 8);
        faulty("law (1;", 2, 6);
        faulty("law 1);", 2, 5);
        faulty("law ();", 2, 5);
        faulty("law a;", 2, 4);
        faulty("law 1 1;", 2, 6);
        faulty("law -1;", 2, 4);
        faulty("law 1", 2, 5);
        faulty("law 1 and or 1;", 2, 10);
        sound("law (((((((1)))))));", 0);
        faulty("law ((((((((1))))))));", 2, 11);
        sound("law not not not not not not not 1;", 0);
        faulty("law not not not not not not not not 1;", 2, 32);
        sound("law not(not(not(1))) and not not not(not not(1));", 0);
        faulty("law not(not(not(not(1))));", 2, 19);
        faulty("law ((((not not not not 1))));", 2, 20);
        sound("law 1" + " + 1".repeat(39) + ";", 0);
        faulty("law 1" + " + 1".repeat(40) + ";", 2, 4 + 40 * 4);
        faulty("law 1" + " + 1".repeat(39) + " + (1);", 2, 4 + 40 * 4);
        faulty("law (1)" + " + 1".repeat(39) + ";", 2, 4 + 2 + 39 * 4);
        MayRings x = of("law (1) or not since;");
        due("4: a ( e ) is a unit too", x.about(8), 3);
        due("4: the law is the valley's, not the houses'", x.about(0), 0);
    }

    private static void promise5() {
        MayRings x = new MayRings();
        put(x, "street; street");
        x.valley();
        due("5: fault(0)", x.fault(0), 2);
        due("5: fault(1)", x.fault(1), 8);
        due("5: fault(2)", x.fault(2), NONE);
        due("5: fault(-1)", x.fault(-1), NONE);
        x.end(7);
        due("5: mended", x.valley(), 0);
        due("5: fault(0) then", x.fault(0), 0);
        due("5: fault(1) then", x.fault(1), NONE);
    }

    private static void promise6() {
        MayRings x = of(FIVE + "law 1;");
        due("6: never", x.since(0, 1), 99);
        drawUp(x, 0, 1, 2, 3, 4);
        due("6: in the latest", x.since(1, 0), 1);
        due("6: the last and the first, too", x.since(0, 4), 1);
        due("6: no neighbours", x.since(0, 2), 99);
        drawUp(x, 0, 2, 4, 1, 3);
        due("6: two ago", x.since(0, 1), 2);
        due("6: one ago", x.since(2, 0), 1);
        due("6: the same", x.since(2, 2), NONE);
        due("6: none such", x.since(2, 5), NONE);
        due("6: none such", x.since(-1, 2), NONE);
        x.burns(1, true);
        due("6: one is out", x.since(0, 1), NONE);
        x.burns(1, false);
        due("6: it goes on", x.since(0, 1), 2);
        x = of(FIVE + "law 1;street;");
        drawUp(x, 0, 1, 2, 3, 4);
        due("6: no way round in a street", x.since(0, 4), 99);
        MayRings long98 = of("house a weight 1;house b weight 1;law since > 98 or year < 2;");
        drawUp(long98, 0, 1);
        long98.burns(1, true);
        for (int year = 2; year <= 98; year++) {
            drawUp(long98, 0);
        }
        long98.burns(1, false);
        due("6: 98 ago", long98.since(0, 1), 98);
        due("6: 98 ago is not let", long98.let(0, 1), 0);
        long98.burns(1, true);
        drawUp(long98, 0);
        drawUp(long98, 0);
        drawUp(long98, 0);
        long98.burns(1, false);
        due("6: more than 99 ago", long98.since(0, 1), 99);
    }

    private static void promise7() {
        MayRings x = of(THREE + "quarrel c a;");
        due("7: let", x.let(0, 1), 1);
        due("7: a quarrel", x.let(0, 2), 0);
        due("7: a quarrel, either way about", x.let(2, 0), 0);
        due("7: the same", x.let(1, 1), NONE);
        due("7: none such", x.let(1, 3), NONE);
        due("7: none such", x.let(-1, 1), NONE);
        x.burns(1, true);
        due("7: one is out", x.let(0, 1), NONE);
        x = of(THREE);
        drawUp(x, 0, 1, 2);
        due("7: the law without a law", x.let(0, 1), 0);
    }

    private static void law(String law, int want) {
        MayRings x = of("house a weight 7;house b weight 3;wish b a worth 5;law " + law + ";");
        due("7: law " + law, x.let(0, 1), want);
        due("7: law " + law, x.let(1, 0), want);
    }

    private static void promise7Law() {
        law("light = 3 and heavy = 7", 1);
        law("since = 99 and worth = 5 and year = 1", 1);
        law("0", 0);
        law("2", 1);
        law("2 and 4", 1);
        law("(2 and 4) = 1", 1);
        law("(0 or 4) = 1", 1);
        law("not 4 = 1", 1);
        law("(not 4) = 0", 1);
        law("not not 4 = 4", 1);
        law("(not not 4) = 1", 1);
        law("1 or 0 and 0", 1);
        law("not 1 or 1", 1);
        law("not 0 and 0", 0);
        law("8 - 3 - 2 = 3", 1);
        law("2 + 3 * 4 = 14", 1);
        law("7 / 2 * 2 = 6", 1);
        law("(0 - 7) / 2 = 0 - 3", 1);
        law("7 / 0", 0);
        law("7 / 0 = 0", 1);
        law("2 < 3 and 3 > 2", 1);
        law("2 < 2 or 2 > 2", 0);
        law("9999 * 9999 * 9999 * 9999 > 0", 9999 * 9999 * 9999 * 9999 > 0 ? 1 : 0);
        law("(0 - 2147 * 1000 * 1000 - 483 * 1000 - 648) / (0 - 1) < 0", 1);
        MayRings x = of(THREE + "wish a b worth 4;law worth;");
        due("7: worth of a wish", x.let(0, 1), 1);
        due("7: no wish", x.let(1, 2), 0);
        x = of(THREE + "law year < 2;");
        due("7: the year that comes", x.let(0, 1), 1);
        drawUp(x, 0, 1, 2);
        due("7: the year that comes then", x.let(0, 1), 0);
    }

    private static void promise8and9() {
        MayRings x = of(THREE);
        due("8: tell(-1)", x.tell(-1), NONE);
        due("8: tell(3)", x.tell(3), NONE);
        due("9: none", x.hush(), 0);
        due("8: tell(2)", x.tell(2), 1);
        due("8: told already", x.tell(2), NONE);
        due("8: tell(0)", x.tell(0), 2);
        due("9: hush()", x.hush(), 2);
        due("9: nothing then", x.about(3), 0);
        due("8: tell again", x.tell(2), 1);
        x.burns(0, true);
        due("8: out", x.tell(0), NONE);
        due("8: not out", x.tell(2), 1);
    }

    private static void promise10() {
        MayRings x = of(THREE + "house d weight 4;bears 4 3 4 2;wish a b worth 7;wish d a worth 9;wish a c worth 20;quarrel b d;");
        tellAll(x, 0, 1, 2);
        due("10: no order", x.judge(0), -2);
        tellAll(x, 0, 1, 2, 3);
        due("10: too heavy at the last", x.judge(0), 3);
        due("10: worth, the ring's way round", x.judge(1), 16);
        tellAll(x, 0, 3, 2, 1);
        due("10: too heavy", x.judge(0), 1);
        tellAll(x, 3, 1, 2, 0);
        due("10: not let beside that behind it", x.judge(0), 0);
        tellAll(x, 3, 2, 0, 1);
        due("10: the last beside the first", x.judge(0), 3);
        tellAll(x, 2, 1, 3, 0);
        due("10: a place in the midst", x.judge(0), 1);
        tellAll(x, 3, 0, 2, 1);
        due("10: the last beside the first", x.judge(0), 3);
        due("10: judge(3)", x.judge(3), -2);
        due("10: judge(-1)", x.judge(-1), -2);
        due("10: haul ahead of the first May", x.judge(2), 0);
        x = of(THREE + "house d weight 4;house e weight 5;law 1;");
        drawUp(x, 0, 1, 2, 3, 4);
        tellAll(x, 4, 0, 1, 2, 3);
        due("10: lawful", x.judge(0), NONE);
        due("10: haul the shorter way", x.judge(2), 1 + 2 + 3 + 4 + 5);
        x.burns(0, true);
        x.burns(0, false);
        tellAll(x, 4, 0, 1, 2, 3);
        due("10: nobody stands, no haul", x.judge(2), 0);
        x = of(THREE + "street;law 1;quarrel a c;wish a c worth 3;");
        drawUp(x, 0, 1, 2);
        tellAll(x, 2, 1, 0);
        due("10: haul in a street", x.judge(2), 2 * 3 + 2 * 1);
        due("10: a street has no way round", x.judge(0), NONE);
        due("10: a street has no way round", x.judge(1), 0);
        x = of(THREE + "wish c a worth 5;");
        tellAll(x, 0, 1, 2);
        due("10: a ring of three closes", x.judge(1), 5);
        x = of("house a weight 1;house b weight 2;wish a b worth 7;law 1;");
        tellAll(x, 0, 1);
        due("10: two are one pair", x.judge(1), 7);
    }

    private static void promise11() {
        due("11: nine", of(houses(9)).lawful(), 362880);
        due("11: one", of(houses(1)).lawful(), 1);
        due("11: one too heavy", of("house a weight 3;bears 2;").lawful(), 0);
        due("11: bears just so much", of("house a weight 3;bears 3;").lawful(), 1);
        MayRings x = of(FIVE);
        drawUp(x, 0, 1, 2, 3, 4);
        due("11: the other ring, ten ways", x.lawful(), 10);
        drawUp(x, 0, 2, 4, 1, 3);
        due("11: no third", x.lawful(), 0);
        due("11: a street, ends apart", of(THREE + "street;quarrel a c;").lawful(), 2);
        due("11: a ring has no ends", of(THREE + "quarrel a c;").lawful(), 0);
        due("11: two houses, one pair", of(houses(2)).lawful(), 2);
        x = of(THREE + "bears 1 2 3;");
        due("11: ground", x.lawful(), 1);
        x.burns(0, true);
        due("11: the first places are those there are", x.lawful(), 0);
    }

    private static void promise12() {
        MayRings x = of(FIVE + "quarrel a b;street;");
        due("12: first()", x.first(), 1);
        liesThere("12", x, 0, 2, 1, 3, 4);
        x = of(THREE + "quarrel a b;");
        due("12: none", x.first(), 0);
        liesThere("12", x);
        due("12: none lies there", x.take(), NONE);
        x = new MayRings();
        due("12: the empty order", x.first(), 1);
        due("12: the empty order lies there", x.take(), 0);
    }

    private static void promise13() {
        MayRings x = of(FIVE + "street;wish a e worth 9;wish b d worth 8;wish d e worth 3;wish c e worth 4;");
        due("13: fairest()", x.fairest(), 21);
        liesThere("13", x, 0, 4, 2, 1, 3);
        due("13: no wishes", of(THREE).fairest(), 0);
        x = of(THREE + "law 0;");
        x.lift();
        due("13: none", x.fairest(), NONE);
        liesThere("13", x);
        x = of("house a weight 1;house b weight 1;wish a b worth 99;");
        due("13: two", x.fairest(), 99);
        liesThere("13", x, 0, 1);
    }

    private static void promise14() {
        MayRings x = of(FIVE);
        due("14: ahead of the first May", x.nearest(), 0);
        liesThere("14", x, 0, 1, 2, 3, 4);
        drawUp(x, 0, 1, 2, 3, 4);
        due("14: nearest()", x.nearest(), 14);
        liesThere("14", x, 0, 2, 4, 1, 3);
        drawUp(x, 0, 2, 4, 1, 3);
        due("14: none", x.nearest(), NONE);
        liesThere("14", x);
        x = of(THREE + "street;law since > 1 or year > 3;");
        drawUp(x, 1, 0, 2);
        due("14: none in a street of three", x.nearest(), NONE);
        x = of(THREE + "street;law 1;quarrel a b;");
        drawUp(x, 0, 2, 1);
        due("14: stay", x.nearest(), 0);
        liesThere("14", x, 0, 2, 1);
    }

    private static void promise15() {
        MayRings x = of(THREE + "house d weight 4;quarrel a b;quarrel a c;quarrel a d;");
        due("15: lift()", x.lift(), 2);
        liesThere("15", x, 0, 1, 2, 3);
        x = of(THREE + "house d weight 4;quarrel a b;quarrel a c;quarrel a d;street;");
        due("15: at an end", x.lift(), 1);
        liesThere("15", x, 0, 1, 2, 3);
        x = of(THREE + "house d weight 4;quarrel a b;quarrel a c;quarrel a d;street;bears 4 1 4 4;");
        due("15: not at an end", x.lift(), 2);
        liesThere("15", x, 1, 0, 2, 3);
        x = of(THREE + "bears 3 2 2;law 0;");
        due("15: all pairs", x.lift(), 3);
        liesThere("15", x, 2, 0, 1);
        x = of(THREE + "bears 2 2 2;");
        due("15: too heavy", x.lift(), NONE);
        liesThere("15", x);
        due("15: lawful anyway", of(THREE).lift(), 0);
    }

    private static void promise16() {
        due("16: one friend is too few", of(THREE + "quarrel a b;").shut(), 3);
        due("16: not in a street", of(THREE + "quarrel a b;street;").shut(), 0);
        due("16: none in a street", of(THREE + "quarrel a b;quarrel a c;street;").shut(), 1);
        due("16: two houses need one", of(houses(2)).shut(), 0);
        due("16: two houses at odds", of(houses(2) + "quarrel a b;").shut(), 3);
        due("16: alone", of(houses(1) + "law 0;").shut(), 0);
        due("16: no place bears", of(THREE + "bears 2 2 1;").shut(), 4);
        due("16: alone, too heavy", of("house a weight 2;bears 1;").shut(), 1);
        due("16: ground that bears nothing", of("house a weight 1;bears 0;").shut(), 1);
        due("16: no houses", new MayRings().shut(), 0);
        MayRings x = of(THREE + "bears 1 2 3;");
        x.burns(0, true);
        due("16: places that are there", x.shut(), 4);
        x = of(FIVE + "quarrel a b;quarrel a c;quarrel a d;");
        due("16: bits by number", x.shut(), 1);
        x.burns(4, true);
        due("16: those that are out are no friends", x.shut(), 1);
        x.burns(0, true);
        due("16: those that are out are not shut", x.shut(), 0);
    }

    private static void promise17() {
        MayRings x = of(FIVE);
        drawUp(x, 0, 1, 2, 3, 4);
        due("17: drawn()", x.drawn(), 8);
        due("17: w", x.about(7), 1103527590);
        liesThere("17", x, 4, 1, 3, 0, 2);
        x.seed(-5);
        int w = -5 * 1103515245 + 12345;
        due("17: a seed below 0", x.drawn(), (w >>> 16) % 10);
        due("17: w wraps", x.about(7), w);
        drawUp(x, 0, 2, 4, 1, 3);
        due("17: none", x.drawn(), NONE);
        due("17: without a draw", x.about(7), w);
        liesThere("17", x);
        x = of(houses(9));
        w = 1103527590;
        due("17: of nine", x.drawn(), (w >>> 16) % 362880);
        liesThere("17", x, 0, 4, 3, 5, 2, 7, 6, 1, 8);
        x = new MayRings();
        due("17: the empty order", x.drawn(), 0);
        due("17: the empty order lies there", x.take(), 0);
    }

    private static void promise18() {
        MayRings x = of(FIVE);
        due("18: ring of five", x.mays(), 2);
        liesThere("18", x, 0, 1, 2, 3, 4);
        due("18: ring of seven", of(houses(7)).mays(), 3);
        due("18: ring of six", of(houses(6)).mays(), 2);
        due("18: street of six", of(houses(6) + "street;").mays(), 3);
        due("18: street of seven", of(houses(7) + "street;").mays(), 3);
        due("18: street of four", of(houses(4) + "street;").mays(), 2);
        due("18: alone", of(houses(1)).mays(), 1);
        due("18: two", of(houses(2)).mays(), 1);
        x = of(THREE + "law 0;");
        x.lift();
        due("18: none", x.mays(), 0);
        liesThere("18", x);
        x = of(houses(8));
        x.first();
        due("18: spent", x.mays(), -2);
        liesThere("18", x);
        x.burns(7, true);
        due("18: seven are not too many", x.mays(), 3);
        x = of(houses(4) + "street;quarrel a b;");
        due("18: four with a quarrel", x.mays(), 1);
        liesThere("18", x, 0, 2, 1, 3);
        x = of("house a weight 9;house b weight 8;house c weight 1;house d weight 1;house e weight 1;house f weight 1;"
                + "street;bears 9 8 1 1 1 1;");
        due("18: two that are always neighbours", x.mays(), 1);
        liesThere("18: two that are always neighbours", x, 0, 1, 2, 3, 4, 5);
        due("18: a ring closes", of(houses(4) + "quarrel a d;quarrel b c;").mays(), 1);
        due("18: a ring can't close", of(houses(4) + "quarrel a d;quarrel a c;").mays(), 0);
        x = of(FIVE + "street;quarrel a b;quarrel a c;");
        x.first();
        liesThere("18: the first of all leaves none beside it", x, 0, 3, 1, 2, 4);
        due("18: five with quarrels", x.mays(), 2);
        liesThere("18: one that leaves one", x, 0, 3, 1, 4, 2);
    }

    private static void promise19() {
        due("19: ring of five", of(FIVE).game(), 0);
        MayRings x = of(FIVE);
        x.first();
        x.game();
        due("19: what lies there stays", x.lies(4), 4);
        drawUp(x, 0, 1, 2, 3, 4);
        due("19: one is left", x.game(), 1);
        due("19: none", of(THREE + "law 0;").game(), 0);
        due("19: ring of three", of(THREE).game(), 1);
        due("19: alone", of(houses(1)).game(), 1);
        due("19: alone, too heavy", of("house a weight 2;bears 1;").game(), 0);
        due("19: no houses", new MayRings().game(), 1);
        due("19: street of four with a quarrel", of(houses(4) + "street;quarrel a b;").game(), 1);
        due("19: the second may be barred", of(FIVE + "street;quarrel a b;quarrel a c;").game(), 1);
        due("19: street of seven", of(houses(7) + "street;").game(), 0);
        due("19: spent", of(houses(8)).game(), -2);
        x = of(houses(9));
        x.burns(3, true);
        due("19: eight", x.game(), -2);
        x.burns(5, true);
        due("19: seven", x.game(), 0);
    }

    private static void promise20() {
        MayRings x = of(houses(7));
        int[][] ruled = {{6, 0, 1, 5, 2, 4, 3}, {6, 1, 2, 0, 3, 5, 4}, {6, 2, 3, 1, 4, 0, 5}};
        for (int i = 0; i < 3; i++) {
            for (int place = 0; place < 7; place++) {
                due("20: ruled(" + i + ", " + place + ")", x.ruled(i, place), ruled[i][place]);
            }
        }
        due("20: i too great", x.ruled(3, 0), NONE);
        due("20: i below 0", x.ruled(-1, 0), NONE);
        due("20: no such place", x.ruled(0, 7), NONE);
        due("20: no such place", x.ruled(0, -1), NONE);
        x.burns(0, true);
        x.burns(1, true);
        due("20: some are out", x.ruled(0, 0), NONE);
        due("20: an even number", of(houses(4)).ruled(0, 0), NONE);
        due("20: one house", of(houses(1)).ruled(0, 0), NONE);
        due("20: three", of(houses(3)).ruled(0, 2), 1);
    }

    private static void promise21and22() {
        MayRings x = of(THREE + "law 1;");
        due("21: none", x.lies(0), NONE);
        due("22: none", x.take(), NONE);
        x.tell(2);
        due("22: none, nothing was done", x.about(3), 1);
        x.first();
        due("21: below 0", x.lies(-1), NONE);
        due("21: too far", x.lies(3), NONE);
        due("21: lies(2)", x.lies(2), 2);
        due("22: take()", x.take(), 3);
        due("22: it is told instead", x.judge(0), NONE);
        due("22: up", x.up(), 1);
        due("21: it lies there still", x.lies(1), 1);
        due("22: again", x.take(), 3);
        due("22: up", x.up(), 2);
        due("22: it is the order", x.stands(1), 1);
    }

    private static void promise23() {
        MayRings x = of(THREE + "quarrel a b;street;law 1;");
        due("23: nothing told", x.up(), NONE);
        tellAll(x, 0, 2);
        due("23: no order", x.up(), NONE);
        due("23: nothing was done", x.about(3), 2);
        tellAll(x, 0, 1, 2);
        due("23: not lawful", x.up(), NONE);
        due("23: nothing was done", x.about(3), 3);
        due("23: nothing was done", x.about(2), 0);
        tellAll(x, 0, 2, 1);
        due("23: up()", x.up(), 1);
        due("23: nothing is told", x.about(3), 0);
        due("23: where all stand", x.stands(1), 2);
        x = new MayRings();
        for (int year = 1; year <= 200; year++) {
            due("23: year", x.up(), year);
        }
        due("23: a 201st", x.up(), NONE);
        due("23: 200 were", x.about(2), 200);
        x = of("house a weight 2;bears 1;");
        x.tell(0);
        due("23: too heavy", x.up(), NONE);
    }

    private static void promise24() {
        MayRings x = of(THREE);
        due("24: ahead of the first", x.stands(0), NONE);
        drawUp(x, 2, 0, 1);
        due("24: stands(0)", x.stands(0), 2);
        due("24: stands(1)", x.stands(1), 0);
        due("24: stands(2)", x.stands(2), 1);
        due("24: stands(3)", x.stands(3), NONE);
        due("24: stands(-1)", x.stands(-1), NONE);
        x.burns(1, true);
        due("24: nobody", x.stands(0), NONE);
    }

    private static void promise25() {
        MayRings x = of(THREE + "law 1;");
        due("25: none such", x.burns(3, true), false);
        due("25: none such", x.burns(-1, true), false);
        due("25: not out", x.burns(0, false), false);
        drawUp(x, 0, 1, 2);
        x.tell(0);
        x.first();
        due("25: so already", x.burns(1, false), false);
        due("25: nothing was done", x.about(3), 1);
        due("25: nothing was done", x.lies(0), 0);
        due("25: nothing was done", x.stands(0), 0);
        due("25: burns", x.burns(1, true), true);
        due("25: nothing is told", x.about(3), 0);
        due("25: none lies there", x.lies(0), NONE);
        due("25: nobody stands", x.stands(0), NONE);
        due("25: so already", x.burns(1, true), false);
        due("25: numbers are kept", x.tell(2), 1);
        due("25: those left", x.lawful(), 2);
        x.first();
        liesThere("25", x, 0, 2);
        due("25: comes", x.burns(1, false), true);
        due("25: nothing is told", x.about(3), 0);
        due("25: none lies there", x.lies(0), NONE);
        due("25: since goes on", x.since(0, 1), 1);
        x.burns(0, true);
        x.burns(1, true);
        x.burns(2, true);
        due("25: all are out: the empty order", x.lawful(), 1);
        due("25: all are out: a May", x.up(), 2);
    }

    private static void promise26() {
        MayRings x = of(FIVE + "street;");
        due("26: itself", x.beside(2, 2, true), NONE);
        due("26: none such", x.beside(0, 5, true), NONE);
        due("26: none such", x.beside(-1, 0, false), NONE);
        due("26: none was written", x.about(4), 0);
        due("26: beside", x.beside(0, 1, true), 0);
        due("26: fits", x.fits(0), 48);
        due("26: not beside", x.beside(3, 2, false), 1);
        due("26: fits", x.fits(0), 24);
        x.burns(4, true);
        due("26: of one that is out", x.beside(4, 0, false), 2);
        due("26: nobody's", x.fits(0), 4);
        due("26: of one that is out", x.beside(4, 0, true), 3);
        due("26: nobody's", x.fits(0), 0);
        for (int i = 4; i < 20; i++) {
            due("26: number", x.beside(0, 1, true), i);
        }
        due("26: a 21st", x.beside(0, 1, true), NONE);
        due("26: there are 20", x.about(4), 20);
        x = of(FIVE);
        x.beside(0, 1, true);
        due("26: in a ring", x.fits(0), 60);
        x.beside(0, 2, true);
        due("26: one between two", x.fits(0), 20);
        x.beside(0, 3, true);
        due("26: three beside one", x.fits(0), 0);
    }

    private static void promise27() {
        MayRings x = of(FIVE);
        due("27: none such", x.at(5, 0, true), NONE);
        due("27: none such", x.at(-1, 0, true), NONE);
        due("27: no place", x.at(0, 9, false), NONE);
        due("27: no place", x.at(0, -1, false), NONE);
        due("27: at", x.at(1, 4, true), 0);
        due("27: fits", x.fits(0), 24);
        due("27: not at", x.at(0, 0, false), 1);
        due("27: fits", x.fits(0), 18);
        due("27: a place that is not there", x.at(0, 8, false), 2);
        due("27: fits", x.fits(0), 18);
        due("27: nobody stands there", x.at(0, 8, true), 3);
        due("27: fits", x.fits(0), 0);
        x.untell(3);
        x.later(1);
        x.burns(0, true);
        due("27: nowhere", x.at(0, 1, false), 4);
        due("27: fits", x.fits(1), 0);
        x.untell(0);
        due("27: fits", x.fits(1), 24);
        due("27: nowhere", x.at(0, 1, true), 5);
        due("27: fits", x.fits(1), 0);
        for (int i = 6; i < 20; i++) {
            due("27: number", x.at(2, 0, true), i);
        }
        due("27: a 21st", x.at(2, 0, true), NONE);
    }

    private static void promise28() {
        MayRings x = of(FIVE);
        due("28: none such", x.untell(0), false);
        due("28: none such", x.untell(-1), false);
        x.at(0, 0, true);
        due("28: untell", x.untell(0), true);
        due("28: so already", x.untell(0), false);
        due("28: it is counted still", x.about(4), 1);
        due("28: told and untold at once", x.fits(0), 120);
        x.at(0, 0, true);
        x.later(5);
        x.untell(1);
        due("28: before", x.fits(4), 24);
        due("28: untold then", x.fits(5), 120);
        due("28: the next number", x.at(1, 1, true), 2);
        due("28: none such", x.untell(3), false);
    }

    private static void promise29() {
        MayRings x = new MayRings();
        due("29: later(0)", x.later(0), 0);
        due("29: later(-1)", x.later(-1), NONE);
        due("29: later(1001)", x.later(1001), NONE);
        for (int i = 1; i <= 100; i++) {
            due("29: later(1000)", x.later(1000), 1000 * i);
        }
        due("29: later(1)", x.later(1), NONE);
        due("29: later(0)", x.later(0), 100000);
    }

    private static void promise30() {
        MayRings x = of(FIVE + "quarrel a b;");
        due("30: no letters", x.fits(0), x.lawful());
        x.later(3);
        x.at(0, 0, true);
        x.later(3);
        x.at(2, 1, true);
        x.later(1);
        x.untell(0);
        due("30: as known at -5", x.fits(-5), 60);
        due("30: as known at 2", x.fits(2), 60);
        due("30: as known at 3", x.fits(3), 12);
        due("30: as known at 6", x.fits(6), 4);
        due("30: as known at 7", x.fits(7), 12);
        due("30: as known at the greatest", x.fits(Integer.MAX_VALUE), 12);
        drawUp(x, 0, 2, 1, 3, 4);
        due("30: letters stay for the next May", x.about(4), 2);
        x = new MayRings();
        due("30: no houses", x.fits(0), 1);
        x = of(houses(1));
        x.burns(0, true);
        x.at(0, 0, true);
        due("30: no houses, and one was to stand", x.fits(0), 0);
    }

    private static void promise31() {
        MayRings x = of(FIVE);
        due("31: none is sure", x.sure(0, 0), 0);
        due("31: no such", x.sure(5, 0), NONE);
        due("31: no such", x.sure(-1, 0), NONE);
        x.later(1);
        x.beside(3, 1, true);
        due("31: as known before", x.sure(1, 0), 0);
        due("31: one is sure", x.sure(1, 1), 8);
        due("31: the other, too", x.sure(3, 1), 2);
        x.at(0, 0, true);
        x.at(2, 1, true);
        x.at(4, 4, true);
        due("31: both are", x.sure(0, 1), 20);
        due("31: a way round", x.sure(4, 1) & 1, 1);
        x.beside(0, 1, true);
        due("31: none fits", x.sure(0, 1), NONE);
        x.burns(4, true);
        due("31: out", x.sure(4, 0), NONE);
        due("31: alone", of(houses(1)).sure(0, 0), 0);
        due("31: two", of(houses(2)).sure(0, 0), 2);
    }

    private static void promise32() {
        MayRings x = new MayRings();
        due("32: 1 at first", x.seed(-7), 1);
        due("32: what it was", x.seed(NONE), -7);
        due("32: so much", x.about(7), NONE);
    }

    private static void promise33and34() {
        MayRings x = of(FIVE + "street;law since > 1;");
        due("33: no such box", x.image(3), NONE);
        due("33: no such box", x.image(-1), NONE);
        due("34: nothing was", x.back(0), NONE);
        drawUp(x, 0, 1, 2, 3, 4);
        x.seed(5);
        due("33: image(0)", x.image(0), 1);
        x.burns(3, true);
        due("33: image(2)", x.image(2), 1);
        x.burns(4, true);
        x.burns(3, false);
        due("34: another May", drawUp(x, 2, 0, 3, 1), 2);
        x.seed(9);
        x.first();
        x.tell(0);
        x.later(4);
        x.beside(0, 1, true);
        due("34: no such box", x.back(3), NONE);
        due("34: no such box", x.back(-1), NONE);
        due("34: nothing was", x.back(1), NONE);
        due("34: nothing was done", x.about(3), 1);
        due("34: back(0)", x.back(0), 1);
        due("34: nothing is told", x.about(3), 0);
        due("34: none lies there", x.lies(0), NONE);
        due("34: none is out", x.about(1), 5);
        due("34: where all stand", x.stands(4), 4);
        due("34: w", x.about(7), 5);
        due("34: since", x.since(1, 2), 1);
        due("34: since", x.since(0, 2), 99);
        due("34: what is let", x.let(1, 2), 0);
        due("34: letters stay", x.about(4), 1);
        due("34: the time stays", x.about(5), 4);
        due("34: gone on from", drawUp(x, 0, 2, 4, 1, 3), 2);
        due("34: once more", x.back(0), 1);
        due("34: back(2)", x.back(2), 1);
        due("34: one is out", x.tell(3), NONE);
        due("34: nobody stands", x.stands(0), NONE);
        due("33: over it", x.image(0), 1);
        due("34: the newer one", x.back(0), 1);
        due("34: the newer one", x.about(1), 4);
    }

    private static void promise35() {
        MayRings x = of(FIVE + "street;law since > 1 or worth > 0;");
        x.burns(0, true);
        drawUp(x, 1, 2, 3, 4);
        x.tell(1);
        x.tell(3);
        x.beside(1, 2, true);
        x.at(1, 2, true);
        x.at(1, 2, true);
        x.later(6);
        x.feed(0, 0, 0, 0, 0);
        x.seed(-3);
        int[] about = {5, 4, 1, 2, 3, 6, 20, -3, 4, 1};
        for (int what = 0; what < about.length; what++) {
            due("35: about(" + what + ")", x.about(what), about[what]);
        }
        due("35: about(10)", x.about(10), NONE);
        due("35: about(-1)", x.about(-1), NONE);
        due("35: no law, no units", of(FIVE).about(8), 0);
    }
}
