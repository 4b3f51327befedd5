/** The edges of a text: what the document says of tokens, of the limits of a text, and of faults and their places. */
public final class TextEdgeTest extends Asking {
    private static final String TEN_SIGNS = ";()<>=+-*/";
    private static final String[] OWN_WORDS = {"house", "weight", "bears", "quarrel", "wish", "worth", "street", "law",
        "or", "and", "not", "light", "heavy", "since", "year"};

    public static void main(String[] args) {
        length();
        eachByteAlone();
        eachByteBetweenWords();
        eachByteBehindNumber();
        wordsOfEightLetters();
        numbersOfFourDigits();
        asLongAsCanBe();
        ownWordsAreNoNames();
        nineHouses();
        weights();
        namesToldAlready();
        housesAheadOfAllOthers();
        bearsAsManyAsHouses();
        bearsNumbers();
        onceEach();
        whatIsNotTold();
        twentyQuarrels();
        twentyWishes();
        worths();
        twoUnlikeHouses();
        oneOfEachSortOfTwo();
        namesThatNoHouseHas();
        fortyUnits();
        withinSixOthersBrackets();
        withinSixOthersNots();
        withinSixOthersMixed();
        grammarOfTheLaw();
        eachTokenMissing();
        firstFaultByPlace();
        atOnePlaceTheLeast();
        faultsOfTheLatest();
        longestLaw();
        oneTextBehindAnother();
        end("TextEdgeTest");
    }

    private static String blanks(int n) {
        return " ".repeat(n);
    }

    /** "A VALLEY is a text of at most 1,600 bytes (empty at first)"; "the end: the text's length". */
    private static void length() {
        String line = "house a weight 1;";
        sound("", 0);
        sound(blanks(1600), 0);
        sound(blanks(1600 - line.length()) + line, 1);
        sound(line + blanks(1600 - line.length()), 1);
        sound(blanks(1599 - line.length()) + line, 1);
        faulty(blanks(1601 - line.length()) + line.substring(0, 16), 2, 1600);
        faulty(blanks(1599) + "$", 1, 1599);
        faulty(blanks(1599) + "a", 2, 1599);
        faulty(";".repeat(1600), 2, 0);
        faulty("street;" + "a;".repeat(796), 2, 7);
        faulty("s", 2, 0);
        faulty("street", 2, 6);
        faulty("street  \n", 2, 9);
        MayRings x = of("");
        due("an empty text tells no house", x.about(0), 0);
        longestText();
    }

    private static void longestText() {
        StringBuilder text = new StringBuilder();
        for (int i = 0; i < 9; i++) {
            text.append("house ").append(longName(i)).append(" weight 99;");
        }
        int pairs = 0;
        for (int a = 0; a < 9 && pairs < 20; a++) {
            for (int b = 0; b < a && pairs < 20; b++, pairs++) {
                text.append("quarrel ").append(longName(a)).append(" ").append(longName(b)).append(";");
                text.append("wish ").append(longName(b)).append(" ").append(longName(a)).append(" worth 99;");
            }
        }
        text.append("street;bears").append(" 99".repeat(9)).append(";law 1").append("+1".repeat(39)).append(";");
        sound(text + blanks(1600 - text.length()), 9);
        MayRings x = of(text.toString());
        due("all of it counts: units", x.about(8), 40);
        due("all of it counts: a street", x.about(9), 1);
        due("all of it counts: a quarrel", x.let(0, 1), 0);
        due("all of it counts: none", x.let(8, 7), 1);
    }

    private static String longName(int i) {
        return "dwellin" + (char) ('a' + i);
    }

    private static boolean isLetter(int sign) {
        return sign >= 'a' && sign <= 'z';
    }

    private static boolean isDigit(int sign) {
        return sign >= '0' && sign <= '9';
    }

    private static boolean isBlank(int sign) {
        return sign == 32 || sign == 10;
    }

    private static boolean isSign(int sign) {
        return TEN_SIGNS.indexOf(sign) >= 0;
    }

    /** "words (a .. z), N, signs ; ( ) < > = + - * /; blanks (32, 10)": all else is no token. */
    private static void eachByteAlone() {
        for (int sign = 0; sign < 256; sign++) {
            String text = Character.toString((char) sign);
            if (isBlank(sign)) {
                sound(text, 0);
            } else {
                boolean token = isLetter(sign) || isDigit(sign) || isSign(sign);
                faulty(text, token ? 2 : 1, 0);
            }
        }
    }

    /** "blanks (32, 10) part them or not". */
    private static void eachByteBetweenWords() {
        for (int sign = 0; sign < 256; sign++) {
            String text = "house a" + (char) sign + "weight 1;";
            if (isBlank(sign)) {
                sound(text, 1);
            } else if (isLetter(sign)) {
                faulty(text, 2, 15);
            } else if (isSign(sign)) {
                faulty(text, 2, 7);
            } else if (!isDigit(sign)) {
                faulty(text, 1, 7);
            }
        }
        sound("house\n \na  weight\n\n1\n;\n", 1);
        sound("house a weight1;bears1;law(1)and(since=99);street;", 1);
        sound("law 1<2 and(3>2)or not(1=1);", 0);
    }

    /** "no letter directly behind an N". */
    private static void eachByteBehindNumber() {
        for (int sign = 0; sign < 256; sign++) {
            String text = "house a weight 1" + (char) sign + ";";
            if (isBlank(sign) || isDigit(sign)) {
                sound(text, 1);
            } else if (isLetter(sign)) {
                faulty(text, 1, 15);
            } else if (isSign(sign)) {
                faulty(text, 2, sign == ';' ? 17 : 16);
            } else {
                faulty(text, 1, 16);
            }
        }
        faulty("law 1or 1;", 1, 4);
        sound("law 1 or 1;", 0);
        sound("law 1\nor 1;", 0);
        sound("law(1)or 1;", 0);
        faulty("house a weight 1a", 1, 15);
        faulty("house a weight 100a;", 1, 15);
    }

    /** "words (a .. z, 8 at most)". */
    private static void wordsOfEightLetters() {
        sound("house a weight 1;", 1);
        sound("house z weight 1;", 1);
        sound("house abcdefg weight 1;", 1);
        sound("house abcdefgh weight 1;", 1);
        faulty("house abcdefghi weight 1;", 1, 6);
        faulty("house " + "a".repeat(16) + " weight 1;", 1, 6);
        faulty("house " + "a".repeat(1594), 1, 6);
        sound("house zzzzzzzz weight 1;house zzzzzzzy weight 1;house yzzzzzzz weight 1;house zzzzzzz weight 1;", 4);
        faulty("streetabc;", 1, 0);
        faulty("streetab;", 2, 0);
        faulty("house Aa weight 1;", 1, 6);
        faulty("house aA weight 1;", 1, 7);
    }

    /** "N (1 to 4 digits)". */
    private static void numbersOfFourDigits() {
        sound("house a weight 9;", 1);
        sound("house a weight 09;", 1);
        sound("house a weight 0009;", 1);
        faulty("house a weight 00009;", 1, 15);
        sound("house a weight 1;bears 0999;", 1);
        faulty("house a weight 1;bears 00999;", 1, 23);
        sound("law 9999;", 0);
        sound("law 0000;", 0);
        faulty("law 10000;", 1, 4);
        faulty("law " + "1".repeat(40) + ";", 1, 4);
        faulty("house a weight 9999;", 4, 15);
        faulty("house a weight;", 2, 14);
        MayRings x = of("house a weight 1;house b weight 1;law 0009 = 9 and 9999 > 9998 and 1000 - 999 = 1;");
        due("a number's digits", x.let(0, 1), 1);
    }

    /** "each is as long as can be". */
    private static void asLongAsCanBe() {
        faulty("housea weight 1;", 2, 0);
        faulty("house aweight 1;", 2, 14);
        faulty("house a weightb 1;", 2, 8);
        faulty("lawsince;", 2, 0);
        faulty("law notyear;", 2, 4);
        faulty("law year andyear;", 2, 9);
        MayRings x = of("house a weight 12;house b weight 3;law light = 3 and heavy = 12;");
        due("12 is no 1 and 2", x.let(0, 1), 1);
        x = of("house ab weight 1;house a weight 2;house b weight 3;quarrel ab b;");
        due("ab is no a", x.let(1, 2), 1);
        due("ab", x.let(0, 2), 0);
        faulty("house a weight 1;bears 12 3;", 2, 26);
        sound("house a weight 1;house b weight 1;bears 12 3;", 2);
        faulty("house a weight 1;house b weight 1;bears 123;", 2, 43);
    }

    /** "Words that stand for themselves here are no NAMES." */
    private static void ownWordsAreNoNames() {
        for (String word : OWN_WORDS) {
            faulty("house " + word + " weight 1;", 2, 6);
            faulty(THREE + "quarrel " + word + " a;", 2, 59);
            faulty(THREE + "quarrel a " + word + ";", 2, 61);
            faulty(THREE + "wish " + word + " a worth 1;", 2, 56);
            faulty(THREE + "wish a " + word + " worth 1;", 2, 58);
            sound("house " + word.substring(1) + "x weight 1;house x" + word + " weight 1;", 2);
            sound("house " + word + "x weight 1;house " + word.substring(0, 1) + " weight 1;", 2);
        }
        String[] others = {"e", "both", "one", "sum", "term", "unit", "line", "valley", "name", "n", "ring"};
        for (String word : others) {
            sound("house " + word + " weight 1;", 1);
        }
    }

    /** "At most 9 HOUSES"; "one of a sort too many: at the line's first word". */
    private static void nineHouses() {
        for (int n = 0; n <= 9; n++) {
            sound(houses(n), n);
        }
        faulty(houses(9) + "house j weight 10;", 2, 153);
        faulty(houses(9) + "\n house a weight 0;", 2, 155);
        faulty(houses(9) + "house", 2, 153);
        MayRings x = of("house q weight 5;house a weight 6;house m weight 7;quarrel a q;law light > 5;");
        due("numbered as told", x.let(1, 2), 1);
        due("numbered as told", x.let(0, 2), 0);
    }

    /** "weight 1 .. 99"; "4 a number that can't be". */
    private static void weights() {
        faulty("house a weight 0;", 4, 15);
        faulty("house a weight 0000;", 4, 15);
        sound("house a weight 1;", 1);
        sound("house a weight 99;", 1);
        faulty("house a weight 100;", 4, 15);
        faulty("house a weight 1;house b weight 0;", 4, 32);
        faulty(houses(8) + "house i weight 100;", 4, 151);
        faulty("house a weight 0", 4, 15);
        MayRings x = of("house a weight 1;house b weight 99;law light = 1 and heavy = 99;");
        due("both weights", x.let(0, 1), 1);
    }

    /** "3 a NAME told already". */
    private static void namesToldAlready() {
        for (int told = 0; told < 8; told++) {
            faulty(houses(8) + "house " + (char) ('a' + told) + " weight 0;", 3, 8 * 17 + 6);
        }
        faulty("house a weight 1;house a", 3, 23);
        sound("house a weight 1;house aa weight 1;house aaa weight 1;house b weight 1;", 4);
        faulty("house abcdefgh weight 1;house abcdefgh weight 1;", 3, 30);
        sound("house abcdefgh weight 1;house abcdefgz weight 1;house zbcdefgh weight 1;", 3);
    }

    /** "numbered as told, ahead of all others"; "a HOUSE behind another line: at the line's first word". */
    private static void housesAheadOfAllOthers() {
        String[] lines = {"bears 1 1;", "quarrel a b;", "wish a b worth 1;", "street;", "law 1;"};
        String two = "house a weight 1;house b weight 1;";
        for (String line : lines) {
            sound(two + line, 2);
            faulty(two + line + "house c weight 1;", 2, two.length() + line.length());
            faulty(two + line + "house a weight 0;", 2, two.length() + line.length());
        }
        for (String line : lines) {
            for (String other : lines) {
                if (!line.equals(other)) {
                    sound(two + line + other, 2);
                }
            }
        }
        faulty("law 1;house a weight 1;", 2, 6);
        faulty("street;house", 2, 7);
    }

    /** "as many N as there are HOUSES"; "an N too many: there". */
    private static void bearsAsManyAsHouses() {
        for (int n = 0; n <= 9; n++) {
            String text = houses(n) + "bears";
            if (n > 0) {
                sound(text + " 9".repeat(n) + ";", n);
                faulty(text + " 9".repeat(n - 1) + ";", 2, text.length() + 2 * (n - 1));
                faulty(text + " 9".repeat(n - 1), 2, text.length() + 2 * (n - 1));
            }
            faulty(text + " 9".repeat(n + 1) + ";", 2, text.length() + 2 * n + 1);
        }
        faulty("bears;", 2, 5);
        faulty("bears", 2, 5);
        faulty("bears 0;", 2, 6);
        faulty("bears a;", 2, 6);
        MayRings x = of(THREE + "bears 3 2 1;");
        due("what places 0, 1, 2 bear", x.lawful(), 1);
        x.first();
        liesThere("what places 0, 1, 2 bear", x, 2, 1, 0);
    }

    /** "what PLACES 0, 1, .. bear, 0 .. 999". */
    private static void bearsNumbers() {
        for (int place = 0; place < 3; place++) {
            String ahead = THREE + "bears" + " 5".repeat(place) + " ";
            String behind = " 5".repeat(2 - place) + ";";
            sound(ahead + "0" + behind, 3);
            sound(ahead + "999" + behind, 3);
            faulty(ahead + "1000" + behind, 4, ahead.length());
            faulty(ahead + "9999" + behind, 4, ahead.length());
        }
        due("ground that bears 0", of(houses(1) + "bears 0;").lawful(), 0);
        due("ground that bears 1", of(houses(1) + "bears 1;").lawful(), 1);
        due("ground that bears 98", of("house a weight 99;bears 98;").lawful(), 0);
        due("ground that bears 99", of("house a weight 99;bears 99;").lawful(), 1);
    }

    /** "bears, street, law once each"; "or a second time: at the line's first word". */
    private static void onceEach() {
        String[] lines = {"bears 9;", "street;", "law 1;"};
        for (String line : lines) {
            String text = houses(1) + line;
            sound(text, 1);
            faulty(text + line, 2, text.length());
            faulty(text + line.substring(0, line.length() - 1), 2, text.length());
            for (String other : lines) {
                if (!other.equals(line)) {
                    faulty(text + other + "\n" + line, 2, text.length() + other.length() + 1);
                    sound(text + other, 1);
                }
            }
        }
        sound(houses(1) + "law 1;street;bears 9;", 1);
    }

    /** "(999; a ring; since = 99)": what holds where nothing is told of it. */
    private static void whatIsNotTold() {
        MayRings x = of("house a weight 99;house b weight 99;house c weight 99;");
        due("all ground bears all", x.lawful(), 6);
        due("a ring", x.about(9), 0);
        due("a ring closes", drawUp(x, 0, 1, 2), 1);
        due("a ring closes", x.since(0, 2), 1);
        due("since = 99", x.let(0, 1), 0);
        x = of("house a weight 99;house b weight 99;house c weight 99;street;");
        due("a street", x.about(9), 1);
        due("a street does not close", drawUp(x, 0, 1, 2), 1);
        due("since = 99", x.let(0, 1), 0);
        due("since = 99", x.let(0, 2), 1);
    }

    /** The first of all pairs of nine houses, one line each. */
    private static String lines(int count, String ahead, String behind) {
        StringBuilder text = new StringBuilder();
        int told = 0;
        for (int a = 0; a < 9; a++) {
            for (int b = 0; b < a; b++, told++) {
                if (told < count) {
                    text.append(ahead).append((char) ('a' + a)).append(' ').append((char) ('a' + b)).append(behind);
                }
            }
        }
        return text.toString();
    }

    /** "20 quarrels". */
    private static void twentyQuarrels() {
        String nineteen = houses(9) + lines(19, "quarrel ", ";");
        String twenty = houses(9) + lines(20, "quarrel ", ";");
        sound(nineteen, 9);
        sound(twenty, 9);
        faulty(houses(9) + lines(21, "quarrel ", ";"), 2, twenty.length());
        faulty(twenty + "quarrel a a;", 2, twenty.length());
        faulty(twenty + "quarrel", 2, twenty.length());
        sound(twenty + "wish i h worth 1;", 9);
        sound(twenty + lines(20, "wish ", " worth 9;"), 9);
        due("the twentieth counts", of(twenty).let(6, 4), 0);
        due("a twenty-first is none", of(twenty).let(6, 5), 1);
    }

    /** "20 wishes". */
    private static void twentyWishes() {
        String nineteen = houses(9) + lines(19, "wish ", " worth 5;");
        String twenty = houses(9) + lines(20, "wish ", " worth 5;");
        sound(nineteen, 9);
        sound(twenty, 9);
        faulty(houses(9) + lines(21, "wish ", " worth 5;"), 2, twenty.length());
        faulty(twenty + "wish a b worth 0;", 2, twenty.length());
        sound(twenty + "quarrel i h;", 9);
        MayRings x = of(twenty + "law worth = 5;");
        due("the twentieth counts", x.let(6, 4), 1);
        due("a twenty-first is none", x.let(6, 5), 0);
    }

    /** "worth 1 .. 99". */
    private static void worths() {
        faulty(THREE + "wish a b worth 0;", 4, 66);
        sound(THREE + "wish a b worth 1;", 3);
        sound(THREE + "wish a b worth 99;", 3);
        faulty(THREE + "wish a b worth 100;", 4, 66);
        faulty(THREE + "wish a b worth 9999;", 4, 66);
        due("worth 1", of(THREE + "wish a b worth 1;").fairest(), 1);
        due("worth 99", of(THREE + "wish a b worth 99;").fairest(), 99);
    }

    /** "of two unlike HOUSES told ahead"; "3 a HOUSE with itself: at the second NAME". */
    private static void twoUnlikeHouses() {
        for (char house = 'a'; house <= 'c'; house++) {
            faulty(THREE + "quarrel " + house + " " + house + ";", 3, 61);
            faulty(THREE + "wish " + house + " " + house + " worth 0;", 3, 58);
        }
        faulty(THREE + "quarrel a\n\n a", 3, 63);
        sound(THREE + "quarrel a b;quarrel b c;quarrel c a;", 3);
        sound(THREE + "wish a b worth 1;wish b c worth 1;wish c a worth 1;", 3);
    }

    /** "one of each sort at most of two"; "two told already (of that sort; either way about: at the second NAME)". */
    private static void oneOfEachSortOfTwo() {
        faulty(THREE + "quarrel a b;quarrel a b;", 3, 73);
        faulty(THREE + "quarrel a b;quarrel b a;", 3, 73);
        faulty(THREE + "quarrel a b;quarrel b c;quarrel c a;quarrel c b;", 3, 97);
        faulty(THREE + "wish a b worth 1;wish a b worth 1;", 3, 75);
        faulty(THREE + "wish a b worth 1;wish b a worth 1;", 3, 75);
        faulty(THREE + "wish a b worth 1;wish b a", 3, 75);
        faulty(THREE + "wish a b worth 99;quarrel a b;wish b a worth 0;", 3, 88);
        sound(THREE + "quarrel a b;wish a b worth 1;", 3);
        sound(THREE + "quarrel a b;wish b a worth 1;", 3);
        sound(THREE + "wish a b worth 1;quarrel a b;", 3);
        sound(THREE + "quarrel a b;quarrel a c;wish a b worth 1;wish a c worth 1;", 3);
    }

    /** "5 a NAME that no HOUSE has". */
    private static void namesThatNoHouseHas() {
        faulty(THREE + "quarrel d a;", 5, 59);
        faulty(THREE + "quarrel a d;", 5, 61);
        faulty(THREE + "quarrel d d;", 5, 59);
        faulty(THREE + "quarrel d", 5, 59);
        faulty(THREE + "wish d a worth 1;", 5, 56);
        faulty(THREE + "wish a d worth 0;", 5, 58);
        faulty(THREE + "wish aa b worth 1;", 5, 56);
        faulty("quarrel a b;", 5, 8);
        faulty("wish a b worth 1;", 5, 5);
    }

    /** "40 units in all"; "a 41st unit: at its first TOKEN". */
    private static void fortyUnits() {
        String[] joins = {" + ", " - ", " * ", " / ", " and ", " or "};
        for (String join : joins) {
            String forty = "law 1" + (join + "1").repeat(39);
            sound(forty + ";", 0);
            faulty(forty + join + "1;", 2, forty.length() + join.length());
        }
        String[] units = {"7", "light", "heavy", "since", "worth", "year"};
        for (String unit : units) {
            String forty = "law " + (unit + " + ").repeat(39) + unit;
            sound(forty + ";", 0);
            faulty(forty + " + " + unit + ";", 2, forty.length() + 3);
            due("forty units", of(forty + ";").about(8), 40);
        }
        bracketsAreUnits();
    }

    private static void bracketsAreUnits() {
        String forty = "law " + "(1) + ".repeat(20);
        sound(forty.substring(0, forty.length() - 3) + ";", 0);
        faulty(forty + "1;", 2, forty.length());
        faulty(forty + "(1);", 2, forty.length());
        faulty("law " + "1 + ".repeat(39) + "(1);", 2, 4 + 39 * 4 + 1);
        faulty("law " + "1 + ".repeat(39) + "(;", 2, 4 + 39 * 4 + 1);
        sound("law " + "1 + ".repeat(38) + "(1);", 0);
        sound("law not not 1" + " + 1".repeat(39) + ";", 0);
        due("a not is no unit", of("law not not 1;").about(8), 1);
        due("a ( e ) is one", of("law ((1));").about(8), 3);
        due("relations are none", of("law 1 < 2 and 3 = 4;").about(8), 4);
    }

    /** "a unit ( e ) within 6 others at most"; "what is within 7 others: at its first TOKEN". */
    private static void withinSixOthersBrackets() {
        for (int deep = 1; deep <= 7; deep++) {
            sound("law " + "(".repeat(deep) + "1" + ")".repeat(deep) + ";", 0);
        }
        faulty("law ((((((((1))))))));", 2, 11);
        faulty("law 1 + ((((((( (1) )))))));", 2, 16);
        faulty("law ((((((((", 2, 11);
        sound("law (((((((1 + 2) + 3) < 4) and 5) or 6) - 7) * 8);", 0);
        sound("law (((((((1) + (2))))))) and (((((((3)))))));", 0);
        faulty("law (((((((1) + (2))))))) and ((((((((3))))))));", 2, 37);
    }

    /** "or a one behind not, within 6 others at most"; "or the not". */
    private static void withinSixOthersNots() {
        for (int deep = 1; deep <= 7; deep++) {
            sound("law " + "not ".repeat(deep) + "1;", 0);
        }
        faulty("law " + "not ".repeat(8) + "1;", 2, 4 + 7 * 4);
        faulty("law " + "not ".repeat(8), 2, 4 + 7 * 4);
        sound("law " + "not ".repeat(7) + "1 and " + "not ".repeat(7) + "1;", 0);
        sound("law " + "not ".repeat(7) + "1 < 2 or " + "not ".repeat(7) + "since;", 0);
        faulty("law " + "not ".repeat(7) + "1 and " + "not ".repeat(8) + "1;", 2, 4 + 28 + 6 + 28);
    }

    private static void withinSixOthersMixed() {
        sound("law not (not (not (not 1)));", 0);
        faulty("law not (not (not (not (1))));", 2, 23);
        faulty("law not (not (not (not not 1)));", 2, 23);
        sound("law (((((( not 1 ))))));", 0);
        faulty("law (((((( not not 1 ))))));", 2, 15);
        faulty("law (((((( not (1) ))))));", 2, 15);
        faulty("law ((((((( not 1 )))))));", 2, 12);
        sound("law not not not not not not (1) = (2);", 0);
        faulty("law not not not not not not not 1 = (2);", 2, 36);
        sound("law not not not not not not 1 and (((((((2)))))));", 0);
    }

    private static void grammarOfTheLaw() {
        faulty("law 1 < 2 < 3;", 2, 10);
        faulty("law 1 = 2 > 3;", 2, 10);
        sound("law (1 < 2) < 3;", 0);
        sound("law 1 < (2 < 3);", 0);
        sound("law 1 < 2 and 3 < 4 or 5 = 6;", 0);
        faulty("law 1 + not 2;", 2, 8);
        faulty("law 1 < not 2;", 2, 8);
        sound("law 1 + (not 2);", 0);
        sound("law 1 and not 2 or not 3;", 0);
        faulty("law not;", 2, 7);
        faulty("law 1 not 2;", 2, 6);
        faulty("law - 1;", 2, 4);
        faulty("law 1 + - 1;", 2, 8);
        faulty("law 1 +;", 2, 7);
        faulty("law 1 and;", 2, 9);
        faulty("law or 1;", 2, 4);
        faulty("law 1 2;", 2, 6);
        faulty("law 1 (2);", 2, 6);
        faulty("law ();", 2, 5);
        faulty("law (1;", 2, 6);
        faulty("law (1));", 2, 7);
        faulty("law (1", 2, 6);
        faulty("law;", 2, 3);
        faulty("law 1 < = 2;", 2, 8);
        faulty("law weight;", 2, 4);
        faulty(THREE + "law a;", 2, 55);
    }

    /** Each line cut ahead of each of its tokens, and with each token another that can't stand there, or is none. */
    private static void eachTokenMissing() {
        String[] lines = {"house d weight 4 ;", "bears 1 2 3 ;", "quarrel a b ;", "wish a b worth 9 ;", "street ;",
            "law ( 1 + since ) * 2 < heavy - light / 3 and not year or worth ;"};
        for (String line : lines) {
            String[] tokens = line.split(" ");
            String ahead = THREE;
            for (int i = 0; i < tokens.length; i++) {
                int place = ahead.length();
                StringBuilder behind = new StringBuilder();
                for (int j = i + 1; j < tokens.length; j++) {
                    behind.append(' ').append(tokens[j]);
                }
                faulty(ahead + "$" + behind, 1, place);
                if (i > 0) {
                    faulty(ahead, 2, place);
                    faulty(ahead + "street" + behind, 2, place);
                }
                ahead += tokens[i] + " ";
            }
            sound(ahead, line.startsWith("house") ? 4 : 3);
        }
    }

    /** "FAULTS, the first by its place". */
    private static void firstFaultByPlace() {
        faulty("house a weight 0;$", 4, 15);
        faulty("house a weight 1;$house a weight 0;", 1, 17);
        faulty("house a weight 1;house a weight 0;", 3, 23);
        faulty(THREE + "quarrel a d;quarrel a a;law ;", 5, 61);
        faulty(THREE + "quarrel a a;quarrel a d;", 3, 61);
        faulty(THREE + "street street;quarrel a a;", 2, 58);
        faulty(THREE + "law 1 1;law 1;", 2, 57);
        faulty(THREE + "wish a a worth 0;", 3, 58);
        faulty(THREE + "wish a d worth 0;", 5, 58);
        faulty(THREE + "bears 1000 1 1 1;", 4, 57);
        faulty(THREE + "bears 1 1 1 1 $", 2, 63);
        faulty("house a weight 1;house abcdefghi weight 1;house 12345", 1, 23);
    }

    /** "at one place the least". */
    private static void atOnePlaceTheLeast() {
        faulty("house abcdefghi", 1, 6);
        faulty("house 12345", 1, 6);
        faulty("house 0", 2, 6);
        faulty("house a weight b;", 2, 15);
        faulty(THREE + "bears 1 1 1 1000;", 2, 63);
        faulty(THREE + "bears 1 1 1 10000;", 1, 63);
        faulty(THREE + "quarrel 0 a;", 2, 59);
        faulty(THREE + "quarrel a abcdefghi;", 1, 61);
        faulty(THREE + "law 1" + " + 1".repeat(39) + " + $;", 1, 51 + 4 + 40 * 4);
        faulty("law (((((((($", 2, 11);
        faulty("law ((((((($", 1, 11);
    }

    /** "Of the latest valley() what 0: its FAULT (0), 1: its place (NONE)." */
    private static void faultsOfTheLatest() {
        MayRings x = new MayRings();
        due("none yet", x.fault(0), 0);
        due("none yet", x.fault(1), NONE);
        String[] texts = {"$", "", ";", "house a weight 1;", "house a weight 0;", "house a weight 1;house a", "quarrel a"};
        int[][] faults = {{1, 0}, {0, NONE}, {2, 0}, {0, NONE}, {4, 15}, {3, 23}, {5, 8}};
        for (int i = 0; i < texts.length; i++) {
            put(x, texts[i]);
            x.valley();
            due("fault(0) of " + texts[i], x.fault(0), faults[i][0]);
            due("fault(1) of " + texts[i], x.fault(1), faults[i][1]);
            due("another what", x.fault(2), NONE);
            due("another what", x.fault(-1), NONE);
            x.feed(0, 0, 0, 0, 0);
            x.end(0);
            due("another text on the tape is no valley()", x.fault(0), faults[i][0]);
        }
    }

    /** Forty units, each behind seven nots: all of it counts, up to the last. */
    private static void longestLaw() {
        String nots = "not ".repeat(7);
        String law = "law " + (nots + "0 and ").repeat(39) + nots;
        sound(law + "0;", 0);
        due("its units", of(law + "0;").about(8), 40);
        due("all are so", of(houses(2) + law + "0;").let(0, 1), 1);
        due("all but the last", of(houses(2) + law + "since;").let(0, 1), 0);
        String sums = "law 1" + " + 1".repeat(38) + " - ";
        due("a sum of forty", of(houses(2) + sums + "39;").let(0, 1), 0);
        due("a sum of forty", of(houses(2) + sums + "38;").let(0, 1), 1);
        String deep = "1 + (1 * (1 + (1 * (1 + (1 * (1 + (0 - 1))))))) = 3";
        due("seven deep", of(houses(2) + "law " + deep + ";").let(0, 1), 1);
        String deeper = "law " + deep.replace("(0 - 1)", "((0 - 1))");
        faulty(deeper + ";", 2, deeper.indexOf("(0 - 1)"));
    }

    /** Nothing of a text is left in the next but one. */
    private static void oneTextBehindAnother() {
        String nots = "not ".repeat(7);
        String longLaw = houses(2) + "law " + (nots + "0 and ").repeat(39) + nots;
        MayRings last = new MayRings();
        String[] units = {"0;", "1;", "0;"};
        for (String unit : units) {
            put(last, longLaw + unit);
            last.valley();
            due("a long law behind others", last.let(0, 1), unit.equals("0;") ? 1 : 0);
            put(last, THREE);
            last.valley();
            due("no law behind a long one", last.let(0, 1), 1);
        }
        String[] texts = {
            houses(9) + lines(20, "quarrel ", ";") + lines(20, "wish ", " worth 5;"),
            houses(3) + "law " + (nots + "0 and ").repeat(20) + nots + "0;",
            houses(3) + "bears 1 0 1;street;law 0;quarrel a b;wish a b worth 9;",
            houses(3)};
        for (String text : texts) {
            MayRings x = new MayRings();
            for (int i = 0; i < 3; i++) {
                put(x, text);
                due("the same text again", x.valley() >= 0, true);
                same("the same text again", view(x), view(of(text)));
            }
            for (int i = 0; i < 2; i++) {
                put(x, THREE);
                due("another text", x.valley(), 3);
                same("another text", view(x), view(of(THREE)));
                due("another text: no wish", x.fairest(), 0);
                put(x, "law 1;bears");
                due("a text with a fault", x.valley(), NONE);
                same("a text with a fault", Integer.toString(x.let(0, 1)), "1");
            }
        }
    }
}
