import java.util.Arrays;

/**
 * A valley whose houses on wheels are drawn up anew each May, in a ring or a street, none beside one
 * that the law does not let. What each call promises stands in the project's document.
 */
public final class MayRings {
    public static final int NONE = -1;

    /** The answer where what was told is no order, and where more is asked than can be searched. */
    private static final int REFUSED = -2;

    private static final int MOST_HOUSES = 9;
    private static final int PAIRS = MOST_HOUSES * MOST_HOUSES;
    private static final int MOST_BYTES = 1600;
    private static final int FED_BYTES = 20;
    private static final int MOST_YEARS = 200;
    private static final int NEVER = 99;
    private static final int BOXES = 3;
    private static final int LONGEST_WAIT = 1000;
    private static final int LAST_TIME = 100000;

    private static final int NO_TOKEN = 1;
    private static final int MISPLACED = 2;
    private static final int TOLD_ALREADY = 3;
    private static final int WRONG_NUMBER = 4;
    private static final int NO_HOUSE = 5;

    /** The kinds of tokens: the words of WORDS from 1 on, a name, a number, the signs of SIGNS. */
    private static final String WORDS =
            "house weight bears quarrel wish worth street law or and not light heavy since year ";
    private static final int WORD_COUNT = 15;
    private static final int HOUSE = 1;
    private static final int WEIGHT = 2;
    private static final int BEARS = 3;
    private static final int QUARREL = 4;
    private static final int WISH = 5;
    private static final int WORTH = 6;
    private static final int STREET = 7;
    private static final int LAW = 8;
    private static final int OR = 9;
    private static final int AND = 10;
    private static final int NOT = 11;
    private static final int LIGHT = 12;
    private static final int HEAVY = 13;
    private static final int SINCE = 14;
    private static final int YEAR = 15;
    private static final int NAME = 16;
    private static final int NUMBER = 17;
    private static final String SIGNS = ";()<>=+-*/";
    private static final int SEMICOLON = 18;
    private static final int OPEN = 19;
    private static final int CLOSE = 20;
    private static final int LESS = 21;
    private static final int MORE = 22;
    private static final int EQUAL = 23;
    private static final int PLUS = 24;
    private static final int MINUS = 25;
    private static final int TIMES = 26;
    private static final int OVER = 27;
    private static final int TEXT_END = 28;
    private static final int BAD = 29;

    private final byte[] tape = new byte[MOST_BYTES];
    private int tapeLength = 0;
    private final Reader reader = new Reader();
    private Valley ground = new Valley();
    private final Past past = new Past();
    private final Past[] boxes = new Past[BOXES];
    private final Letters letters = new Letters();
    private final Order told = new Order();
    private final Order lying = new Order();
    private final Ways ways = new Ways();
    private final Families families = new Families();
    /** By house: bits of those with whom it is let, now. */
    private final int[] lets = new int[MOST_HOUSES];

    public MayRings() {
        for (int i = 0; i < BOXES; i++) {
            boxes[i] = new Past();
        }
        lying.size = NONE;
    }

    public int feed(int a, int b, int c, int d, int e) {
        if (tapeLength + FED_BYTES > MOST_BYTES) {
            return NONE;
        }
        putOnTape(a);
        putOnTape(b);
        putOnTape(c);
        putOnTape(d);
        putOnTape(e);
        return tapeLength;
    }

    private void putOnTape(int four) {
        for (int shift = 24; shift >= 0; shift -= 8) {
            if (tapeLength < MOST_BYTES) {
                tape[tapeLength] = (byte) (four >>> shift);
                tapeLength++;
            }
        }
    }

    public int end(int n) {
        if (n < 0 || n > tapeLength) {
            return NONE;
        }
        tapeLength = n;
        return n;
    }

    public int valley() {
        if (!reader.accepts(tape, tapeLength)) {
            return NONE;
        }
        ground = reader.exchange(ground);
        tapeLength = 0;
        past.clear();
        letters.count = 0;
        for (int i = 0; i < BOXES; i++) {
            boxes[i].kept = false;
        }
        forgetOrders();
        settleLets();
        return ground.houses;
    }

    /** What is told, and what lies there, is of the houses that were; both go when those change. */
    private void forgetOrders() {
        told.size = 0;
        lying.size = NONE;
    }

    /** The law is asked once for each change of what it looks at, not once for each search. */
    private void settleLets() {
        Arrays.fill(lets, 0);
        for (int a = 0; a < ground.houses; a++) {
            for (int b = 0; b < a; b++) {
                if (ground.allows(a, b, past.ago(a, b), past.years + 1)) {
                    lets[a] |= 1 << b;
                    lets[b] |= 1 << a;
                }
            }
        }
    }

    public int fault(int what) {
        if (what == 0) {
            return reader.fault;
        }
        return what == 1 ? reader.faultPlace : NONE;
    }

    public int since(int a, int b) {
        return isPair(a, b) ? past.ago(a, b) : NONE;
    }

    public int let(int a, int b) {
        return isPair(a, b) ? lets[a] >> b & 1 : NONE;
    }

    private boolean isTold(int house) {
        return house >= 0 && house < ground.houses;
    }

    private boolean isIn(int house) {
        return isTold(house) && (past.out >> house & 1) == 0;
    }

    private boolean isPair(int a, int b) {
        return a != b && isIn(a) && isIn(b);
    }

    /** The houses that are not out, as bits. */
    private int housesIn() {
        return ((1 << ground.houses) - 1) & ~past.out;
    }

    private int size() {
        return Integer.bitCount(housesIn());
    }

    public int tell(int house) {
        if (!isIn(house) || told.holds(house)) {
            return NONE;
        }
        told.add(house);
        return told.size;
    }

    public int hush() {
        int were = told.size;
        told.size = 0;
        return were;
    }

    public int judge(int what) {
        if (told.size != size()) {
            return REFUSED;
        }
        switch (what) {
            case 0:
                return unlawfulPlace();
            case 1:
                return worthOfTold();
            case 2:
                return haulOfTold();
            default:
                return REFUSED;
        }
    }

    private int unlawfulPlace() {
        for (int place = 0; place < told.size; place++) {
            int house = told.houses[place];
            if (ground.weights[house] > ground.bears[place]) {
                return place;
            }
            int next = placeBehind(place);
            if (next != NONE && (lets[house] >> told.houses[next] & 1) == 0) {
                return place;
            }
        }
        return NONE;
    }

    /** The place whose house is a neighbour too; with two houses the ring's way back is no other pair. */
    private int placeBehind(int place) {
        if (place + 1 < told.size) {
            return place + 1;
        }
        return ground.street || told.size < 3 ? NONE : 0;
    }

    private int worthOfTold() {
        int worth = 0;
        for (int place = 0; place < told.size; place++) {
            int next = placeBehind(place);
            if (next != NONE) {
                worth += ground.worths[told.houses[place] * MOST_HOUSES + told.houses[next]];
            }
        }
        return worth;
    }

    private int haulOfTold() {
        int haul = 0;
        for (int place = 0; place < told.size; place++) {
            haul += haulTo(told.houses[place], place);
        }
        return haul;
    }

    private int haulTo(int house, int place) {
        int from = past.placeOf(house);
        if (from == NONE) {
            return 0;
        }
        int far = Math.abs(place - from);
        if (!ground.street) {
            far = Math.min(far, past.standing.size - far);
        }
        return ground.weights[house] * far;
    }

    /** From here on the search asks for lawful orders of the houses that are in. */
    private void askLawful() {
        int houses = housesIn();
        ways.begin(houses, !ground.street);
        for (int house = 0; house < ground.houses; house++) {
            ways.pairs[house] = lets[house] & houses;
        }
        for (int place = 0; place < ways.size; place++) {
            ways.ground[place] = ground.lightEnough(ground.bears[place]) & houses;
        }
    }

    public int lawful() {
        askLawful();
        return ways.count();
    }

    public int first() {
        askLawful();
        return ways.cheapest(lying) ? 1 : 0;
    }

    public int fairest() {
        askLawful();
        for (int i = 0; i < PAIRS; i++) {
            ways.pairCosts[i] = -ground.worths[i];
        }
        return ways.cheapest(lying) ? -ways.cost : NONE;
    }

    public int nearest() {
        askLawful();
        for (int house = 0; house < ground.houses; house++) {
            for (int place = 0; place < ways.size; place++) {
                ways.placeCosts[house * MOST_HOUSES + place] = haulTo(house, place);
            }
        }
        return ways.cheapest(lying) ? ways.cost : NONE;
    }

    public int lift() {
        askLawful();
        for (int a = 0; a < ground.houses; a++) {
            for (int b = 0; b < ground.houses; b++) {
                ways.pairCosts[a * MOST_HOUSES + b] = 1 - (lets[a] >> b & 1);
            }
            ways.pairs[a] = housesIn();
        }
        return ways.cheapest(lying) ? ways.cost : NONE;
    }

    public int shut() {
        int houses = housesIn();
        int size = size();
        int needed = ground.street || size < 3 ? Math.min(1, Math.max(size - 1, 0)) : 2;
        int mostBorne = 0;
        for (int place = 0; place < size; place++) {
            mostBorne = Math.max(mostBorne, ground.bears[place]);
        }
        int shut = houses & ~ground.lightEnough(mostBorne);
        for (int house = 0; house < ground.houses; house++) {
            if (Integer.bitCount(lets[house] & houses) < needed) {
                shut |= 1 << house;
            }
        }
        return shut & houses;
    }

    public int drawn() {
        askLawful();
        int count = ways.count();
        if (count <= 0) {
            lying.size = NONE;
            return NONE;
        }
        past.w = past.w * 1103515245 + 12345;
        int which = (past.w >>> 16) % count;
        ways.pick(which, lying);
        return which;
    }

    public int mays() {
        lying.size = NONE;
        if (size() > Families.MOST_MEMBERS) {
            return REFUSED;
        }
        askLawful();
        families.gather(ways);
        return families.most(lying);
    }

    public int game() {
        if (size() > Families.MOST_MEMBERS) {
            return REFUSED;
        }
        askLawful();
        families.gather(ways);
        return families.beginnerWins() ? 1 : 0;
    }

    public int ruled(int i, int place) {
        int n = ground.houses;
        if (past.out != 0 || n < 3 || n % 2 == 0 || i < 0 || i >= (n - 1) / 2 || place < 0 || place >= n) {
            return NONE;
        }
        if (place == 0) {
            return n - 1;
        }
        return Math.floorMod(place % 2 == 0 ? i + place / 2 : i - place / 2, n - 1);
    }

    public int lies(int place) {
        return lying.houseAt(place);
    }

    public int take() {
        if (lying.size == NONE) {
            return NONE;
        }
        told.copy(lying);
        return told.size;
    }

    public int up() {
        if (told.size != size() || past.years >= MOST_YEARS || unlawfulPlace() != NONE) {
            return NONE;
        }
        past.years++;
        for (int place = 0; place < told.size; place++) {
            int next = placeBehind(place);
            if (next != NONE) {
                past.meet(told.houses[place], told.houses[next]);
            }
        }
        past.standing.copy(told);
        told.size = 0;
        settleLets();
        return past.years;
    }

    public int stands(int place) {
        return past.standing.houseAt(place);
    }

    public boolean burns(int house, boolean is) {
        if (!isTold(house) || isIn(house) != is) {
            return false;
        }
        past.out ^= 1 << house;
        past.standing.size = 0;
        forgetOrders();
        return true;
    }

    public int beside(int a, int b, boolean is) {
        if (a == b || !isTold(a) || !isTold(b)) {
            return NONE;
        }
        return letters.add(a, b, false, is);
    }

    public int at(int house, int place, boolean is) {
        if (!isTold(house) || place < 0 || place >= MOST_HOUSES) {
            return NONE;
        }
        return letters.add(house, place, true, is);
    }

    public boolean untell(int letter) {
        return letters.drop(letter);
    }

    public int later(int by) {
        if (by < 0 || by > LONGEST_WAIT || letters.time + by > LAST_TIME) {
            return NONE;
        }
        letters.time += by;
        return letters.time;
    }

    public int fits(int k) {
        askLawful();
        letters.ask(ways, k);
        return ways.count();
    }

    public int sure(int house, int k) {
        if (!isIn(house)) {
            return NONE;
        }
        askLawful();
        letters.ask(ways, k);
        return ways.alwaysBeside(house);
    }

    public int seed(int w) {
        int was = past.w;
        past.w = w;
        return was;
    }

    public int image(int box) {
        if (box < 0 || box >= BOXES) {
            return NONE;
        }
        boxes[box].copy(past);
        boxes[box].kept = true;
        return past.years;
    }

    public int back(int box) {
        if (box < 0 || box >= BOXES || !boxes[box].kept) {
            return NONE;
        }
        past.copy(boxes[box]);
        forgetOrders();
        settleLets();
        return past.years;
    }

    public int about(int what) {
        switch (what) {
            case 0:
                return ground.houses;
            case 1:
                return size();
            case 2:
                return past.years;
            case 3:
                return told.size;
            case 4:
                return letters.count;
            case 5:
                return letters.time;
            case 6:
                return tapeLength;
            case 7:
                return past.w;
            case 8:
                return ground.law.units;
            case 9:
                return ground.street ? 1 : 0;
            default:
                return NONE;
        }
    }

    /** Houses by place; a size of NONE stands for no order at all, as the empty order is one. */
    private static final class Order {
        final int[] houses = new int[MOST_HOUSES];
        int size = 0;

        boolean holds(int house) {
            for (int i = 0; i < size; i++) {
                if (houses[i] == house) {
                    return true;
                }
            }
            return false;
        }

        void add(int house) {
            if (size >= 0 && size < MOST_HOUSES) {
                houses[size] = house;
                size++;
            }
        }

        int houseAt(int place) {
            return place >= 0 && place < size ? houses[place] : NONE;
        }

        void copy(Order from) {
            System.arraycopy(from.houses, 0, houses, 0, MOST_HOUSES);
            size = from.size;
        }
    }

    /** The Mays that were, as far as anything later asks for them: what an image keeps. */
    private static final class Past {
        /** By pair: the year in which the two were neighbours last, 0 for never. */
        private final int[] met = new int[PAIRS];
        final Order standing = new Order();
        int years = 0;
        int out = 0;
        int w = 1;
        boolean kept = false;

        void clear() {
            Arrays.fill(met, 0);
            standing.size = 0;
            years = 0;
            out = 0;
        }

        void copy(Past from) {
            System.arraycopy(from.met, 0, met, 0, PAIRS);
            standing.copy(from.standing);
            years = from.years;
            out = from.out;
            w = from.w;
        }

        void meet(int a, int b) {
            met[a * MOST_HOUSES + b] = years;
            met[b * MOST_HOUSES + a] = years;
        }

        int ago(int a, int b) {
            int year = met[a * MOST_HOUSES + b];
            return year == 0 ? NEVER : Math.min(NEVER, years - year + 1);
        }

        int placeOf(int house) {
            for (int place = 0; place < standing.size; place++) {
                if (standing.houses[place] == house) {
                    return place;
                }
            }
            return NONE;
        }
    }

    /** What a text tells: houses, ground, quarrels, wishes and the law. */
    private static final class Valley {
        static final int MOST_QUARRELS = 20;
        static final int MOST_WISHES = 20;
        static final int BEARS_ALL = 999;

        final long[] names = new long[MOST_HOUSES];
        final int[] weights = new int[MOST_HOUSES];
        final int[] bears = new int[MOST_HOUSES];
        /** By house: bits of those with whom it has a quarrel. */
        final int[] quarrels = new int[MOST_HOUSES];
        final int[] worths = new int[PAIRS];
        final Law law = new Law();
        int houses = 0;
        int quarrelCount = 0;
        int wishCount = 0;
        boolean street = false;

        Valley() {
            Arrays.fill(bears, BEARS_ALL);
        }

        void clear() {
            Arrays.fill(bears, BEARS_ALL);
            Arrays.fill(quarrels, 0);
            Arrays.fill(worths, 0);
            law.clear();
            houses = 0;
            quarrelCount = 0;
            wishCount = 0;
            street = false;
        }

        int named(long name) {
            for (int i = 0; i < houses; i++) {
                if (names[i] == name) {
                    return i;
                }
            }
            return NONE;
        }

        void addHouse(long name, int weight) {
            if (houses < MOST_HOUSES) {
                names[houses] = name;
                weights[houses] = weight;
                houses++;
            }
        }

        void addQuarrel(int a, int b) {
            quarrels[a] |= 1 << b;
            quarrels[b] |= 1 << a;
            quarrelCount++;
        }

        void addWish(int a, int b, int worth) {
            worths[a * MOST_HOUSES + b] = worth;
            worths[b * MOST_HOUSES + a] = worth;
            wishCount++;
        }

        /** The houses that weigh no more than so much, as bits. */
        int lightEnough(int borne) {
            int light = 0;
            for (int house = 0; house < houses; house++) {
                if (weights[house] <= borne) {
                    light |= 1 << house;
                }
            }
            return light;
        }

        boolean allows(int a, int b, int since, int year) {
            if ((quarrels[a] >> b & 1) == 1) {
                return false;
            }
            law.look(LIGHT, Math.min(weights[a], weights[b]));
            law.look(HEAVY, Math.max(weights[a], weights[b]));
            law.look(SINCE, since);
            law.look(WORTH, worths[a * MOST_HOUSES + b]);
            law.look(YEAR, year);
            return law.value() != 0;
        }
    }

    /** The law in postfix: a number for itself, all else as the negative of its token's kind. */
    private static final class Law {
        static final int MOST_UNITS = 40;
        /** Each unit may have seven nots before it, and all but one a sign that joins it. */
        static final int MOST_CODES = MOST_UNITS * 9;

        private final int[] codes = new int[MOST_CODES];
        private final int[] stack = new int[MOST_UNITS];
        private final int[] facts = new int[YEAR + 1];
        private int length = 0;
        private int top = 0;
        int units = 0;

        Law() {
            putSinceNever();
        }

        /** The law of a valley that tells none. */
        private void putSinceNever() {
            put(-SINCE);
            put(NEVER);
            put(-EQUAL);
        }

        void clear() {
            open();
            putSinceNever();
        }

        void open() {
            length = 0;
            units = 0;
        }

        void put(int code) {
            if (length < MOST_CODES) {
                codes[length] = code;
                length++;
            }
        }

        void look(int fact, int value) {
            if (fact >= 0 && fact <= YEAR) {
                facts[fact] = value;
            }
        }

        int value() {
            top = 0;
            for (int i = 0; i < length; i++) {
                int kind = -codes[i];
                if (kind <= 0) {
                    push(codes[i]);
                } else if (kind == WORTH || kind >= LIGHT && kind <= YEAR) {
                    push(facts[kind]);
                } else if (kind == NOT) {
                    push(pop() == 0 ? 1 : 0);
                } else {
                    int right = pop();
                    push(joined(kind, pop(), right));
                }
            }
            return pop();
        }

        private void push(int value) {
            if (top < MOST_UNITS) {
                stack[top] = value;
                top++;
            }
        }

        private int pop() {
            if (top <= 0) {
                return 0;
            }
            top--;
            return stack[top];
        }

        private static int joined(int kind, int left, int right) {
            switch (kind) {
                case OR:
                    return left != 0 || right != 0 ? 1 : 0;
                case AND:
                    return left != 0 && right != 0 ? 1 : 0;
                case LESS:
                    return left < right ? 1 : 0;
                case MORE:
                    return left > right ? 1 : 0;
                case EQUAL:
                    return left == right ? 1 : 0;
                case PLUS:
                    return left + right;
                case MINUS:
                    return left - right;
                case TIMES:
                    return left * right;
                default:
                    return right == 0 ? 0 : left / right;
            }
        }
    }

    /**
     * Reads a text into a draft, so that a text with a fault leaves the valley as it is. What can't be a
     * token ends the tokens as a BAD one: the parser meets it in its place, behind every earlier fault.
     */
    private static final class Reader {
        static final int LONGEST_WORD = 8;
        static final int MOST_DIGITS = 4;
        static final int DEEPEST = 7;
        /** Levels of the law's grammar: or, and, one (a relation or a not), sum, term, and behind it unit. */
        static final int ONE = 2;
        static final int UNIT = 5;

        private final long[] words = new long[WORD_COUNT];
        private final int[] kinds = new int[MOST_BYTES + 1];
        private final int[] places = new int[MOST_BYTES + 1];
        private final long[] values = new long[MOST_BYTES + 1];
        private int count = 0;
        private int here = 0;
        private Valley draft = new Valley();
        private boolean housesClosed = false;
        private boolean bearsTold = false;
        private boolean lawTold = false;
        int fault = 0;
        int faultPlace = NONE;

        Reader() {
            int word = 0;
            for (int i = 0; i < WORDS.length(); i++) {
                char sign = WORDS.charAt(i);
                if (sign == ' ') {
                    word++;
                } else if (word < WORD_COUNT) {
                    words[word] = withLetter(words[word], sign);
                }
            }
        }

        /** Five bits a letter: eight letters go into one number, and no two words into the same. */
        private static long withLetter(long word, int letter) {
            return word << 5 | letter - 'a' + 1;
        }

        boolean accepts(byte[] text, int length) {
            split(text, Math.min(length, MOST_BYTES));
            draft.clear();
            here = 0;
            housesClosed = false;
            bearsTold = false;
            lawTold = false;
            fault = 0;
            faultPlace = NONE;
            for (int i = 0; i < count && fault == 0 && kinds[here] != TEXT_END; i++) {
                readLine();
            }
            return fault == 0;
        }

        /** Hands out what was read; the other one is the next draft. */
        Valley exchange(Valley old) {
            Valley ready = draft;
            draft = old;
            return ready;
        }

        private void split(byte[] text, int length) {
            count = 0;
            int from = 0;
            for (int i = 0; i < length && from < length; i++) {
                from = splitOff(text, from, length);
            }
            if (count == 0 || kinds[count - 1] != BAD) {
                put(TEXT_END, length, 0);
            }
        }

        private void put(int kind, int place, long value) {
            if (count <= MOST_BYTES) {
                kinds[count] = kind;
                places[count] = place;
                values[count] = value;
                count++;
            }
        }

        /** Where the next token may begin: behind a bad one the text counts no more. */
        private int splitOff(byte[] text, int from, int length) {
            int sign = text[from] & 255;
            if (sign == ' ' || sign == '\n') {
                return from + 1;
            }
            if (isLetter(sign)) {
                return splitWord(text, from, length);
            }
            if (isDigit(sign)) {
                return splitNumber(text, from, length);
            }
            int kind = SIGNS.indexOf((char) sign);
            if (kind < 0) {
                put(BAD, from, 0);
                return length;
            }
            put(SEMICOLON + kind, from, 0);
            return from + 1;
        }

        private static boolean isLetter(int sign) {
            return sign >= 'a' && sign <= 'z';
        }

        private static boolean isDigit(int sign) {
            return sign >= '0' && sign <= '9';
        }

        private int splitWord(byte[] text, int from, int length) {
            long word = 0;
            int to = from;
            while (to < length && isLetter(text[to])) {
                word = withLetter(word, text[to]);
                to++;
            }
            if (to - from > LONGEST_WORD) {
                put(BAD, from, 0);
                return length;
            }
            put(kindOf(word), from, word);
            return to;
        }

        private int kindOf(long word) {
            for (int i = 0; i < WORD_COUNT; i++) {
                if (words[i] == word) {
                    return i + 1;
                }
            }
            return NAME;
        }

        private int splitNumber(byte[] text, int from, int length) {
            int number = 0;
            int to = from;
            while (to < length && isDigit(text[to])) {
                number = number * 10 + text[to] - '0';
                to++;
            }
            if (to - from > MOST_DIGITS || to < length && isLetter(text[to])) {
                put(BAD, from, 0);
                return length;
            }
            put(NUMBER, from, number);
            return to;
        }

        /** The first refusal stands; what is no token is that before it is anything else. */
        private void refuse(int why) {
            if (fault == 0) {
                fault = kinds[here] == BAD ? NO_TOKEN : why;
                faultPlace = places[here];
            }
        }

        private void step() {
            if (fault == 0 && here + 1 < count) {
                here++;
            }
        }

        private void expect(int kind) {
            if (kinds[here] != kind) {
                refuse(MISPLACED);
            }
            step();
        }

        /** A line that can't be is refused at its first word. */
        private void begin(boolean canBe) {
            if (!canBe) {
                refuse(MISPLACED);
            }
            step();
        }

        private void readLine() {
            int kind = kinds[here];
            boolean closed = housesClosed;
            housesClosed = kind != HOUSE;
            switch (kind) {
                case HOUSE:
                    begin(!closed && draft.houses < MOST_HOUSES);
                    readHouse();
                    break;
                case BEARS:
                    begin(!bearsTold);
                    readBears();
                    break;
                case QUARREL:
                    begin(draft.quarrelCount < Valley.MOST_QUARRELS);
                    readQuarrel();
                    break;
                case WISH:
                    begin(draft.wishCount < Valley.MOST_WISHES);
                    readWish();
                    break;
                case STREET:
                    begin(!draft.street);
                    draft.street = true;
                    break;
                case LAW:
                    begin(!lawTold);
                    readLaw();
                    break;
                default:
                    refuse(MISPLACED);
                    break;
            }
            expect(SEMICOLON);
        }

        private void readHouse() {
            long name = values[here];
            if (kinds[here] != NAME) {
                refuse(MISPLACED);
            } else if (draft.named(name) != NONE) {
                refuse(TOLD_ALREADY);
            }
            step();
            expect(WEIGHT);
            draft.addHouse(name, readNumber(1, 99));
        }

        private int readNumber(int least, int most) {
            int number = (int) values[here];
            if (kinds[here] != NUMBER) {
                refuse(MISPLACED);
            } else if (number < least || number > most) {
                refuse(WRONG_NUMBER);
            }
            step();
            return number;
        }

        private void readBears() {
            bearsTold = true;
            if (draft.houses == 0) {
                refuse(MISPLACED);
            }
            for (int place = 0; place < draft.houses; place++) {
                draft.bears[place] = readNumber(0, Valley.BEARS_ALL);
            }
        }

        private void readQuarrel() {
            int a = readKnown();
            int b = readOther(a, draft.quarrels[a]);
            if (fault == 0) {
                draft.addQuarrel(a, b);
            }
        }

        private void readWish() {
            int a = readKnown();
            int wished = 0;
            for (int house = 0; house < draft.houses; house++) {
                if (draft.worths[a * MOST_HOUSES + house] != 0) {
                    wished |= 1 << house;
                }
            }
            int b = readOther(a, wished);
            expect(WORTH);
            int worth = readNumber(1, 99);
            if (fault == 0) {
                draft.addWish(a, b, worth);
            }
        }

        /** The house of a name; behind a refusal any house does, as the draft is not used. */
        private int readKnown() {
            int house = draft.named(values[here]);
            if (kinds[here] != NAME) {
                refuse(MISPLACED);
            } else if (house == NONE) {
                refuse(NO_HOUSE);
            }
            step();
            return Math.max(house, 0);
        }

        private int readOther(int house, int taken) {
            int place = here;
            int other = readKnown();
            if (fault == 0 && (other == house || (taken >> other & 1) == 1)) {
                here = place;
                refuse(TOLD_ALREADY);
            }
            return other;
        }

        private void readLaw() {
            lawTold = true;
            draft.law.open();
            readLevel(0, 0);
        }

        /** The level of the grammar whose parts a token joins. */
        private static int levelOf(int kind) {
            switch (kind) {
                case OR:
                    return 0;
                case AND:
                    return 1;
                case LESS:
                case MORE:
                case EQUAL:
                    return ONE;
                case PLUS:
                case MINUS:
                    return 3;
                case TIMES:
                case OVER:
                    return 4;
                default:
                    return NONE;
            }
        }

        private void readLevel(int level, int depth) {
            if (level >= UNIT) {
                readUnit(depth);
                return;
            }
            if (level == ONE && kinds[here] == NOT) {
                readNot(depth);
                return;
            }
            readLevel(level + 1, depth);
            int joins = level == ONE ? 1 : count;
            for (int i = 0; i < joins && fault == 0 && levelOf(kinds[here]) == level; i++) {
                int join = kinds[here];
                step();
                readLevel(level + 1, depth);
                draft.law.put(-join);
            }
        }

        private void readNot(int depth) {
            if (depth >= DEEPEST) {
                refuse(MISPLACED);
                return;
            }
            step();
            readLevel(ONE, depth + 1);
            draft.law.put(-NOT);
        }

        private void readUnit(int depth) {
            int kind = kinds[here];
            boolean isFact = kind == WORTH || kind >= LIGHT && kind <= YEAR;
            boolean isOpen = kind == OPEN && depth < DEEPEST;
            if (draft.law.units >= Law.MOST_UNITS || kind != NUMBER && !isFact && !isOpen) {
                refuse(MISPLACED);
                return;
            }
            draft.law.units++;
            int number = (int) values[here];
            step();
            if (isOpen) {
                readLevel(0, depth + 1);
                expect(CLOSE);
            } else {
                draft.law.put(isFact ? -kind : number);
            }
        }
    }

    /** What was written of the May that comes, with the two times at which each letter was told and untold. */
    private static final class Letters {
        static final int MOST = 20;

        private final int[] house = new int[MOST];
        /** The other house, or the place. */
        private final int[] where = new int[MOST];
        private final boolean[] ofPlace = new boolean[MOST];
        private final boolean[] isSo = new boolean[MOST];
        private final int[] toldAt = new int[MOST];
        private final int[] untoldAt = new int[MOST];
        int count = 0;
        int time = 0;

        int add(int a, int other, boolean place, boolean is) {
            if (count >= MOST) {
                return NONE;
            }
            house[count] = a;
            where[count] = other;
            ofPlace[count] = place;
            isSo[count] = is;
            toldAt[count] = time;
            untoldAt[count] = NONE;
            count++;
            return count - 1;
        }

        boolean drop(int letter) {
            if (letter < 0 || letter >= count || untoldAt[letter] != NONE) {
                return false;
            }
            untoldAt[letter] = time;
            return true;
        }

        /** The search heeds those that count as known at k. */
        void ask(Ways ways, int k) {
            for (int i = 0; i < count; i++) {
                boolean counts = toldAt[i] <= k && (untoldAt[i] == NONE || untoldAt[i] > k);
                if (counts && ofPlace[i]) {
                    ways.heedPlace(house[i], where[i], isSo[i]);
                } else if (counts) {
                    ways.heedPair(house[i], where[i], isSo[i]);
                }
            }
        }
    }

    /**
     * Searches among orders by what can still come behind the houses placed and the last of them, so that
     * nine houses need no walk over all their orders. In a ring the house at place 0 matters at the end,
     * so each is taken in turn.
     */
    private static final class Ways {
        static final int COUNTED = 0;
        static final int CHEAPEST = 1;
        static final int ALWAYS = 2;
        /** Above each cost that an order can have. */
        static final int NO_WAY = 1000000;

        /** By place: houses that may stand there. By house: those that may be beside it. As bits. */
        final int[] ground = new int[MOST_HOUSES];
        final int[] pairs = new int[MOST_HOUSES];
        /** By house: those that a letter says are beside it. */
        private final int[] must = new int[MOST_HOUSES];
        final int[] pairCosts = new int[PAIRS];
        final int[] placeCosts = new int[PAIRS];
        /** By the houses placed and the last of them: what all that can follow come to. */
        private final int[] ahead = new int[MOST_HOUSES << MOST_HOUSES];
        int houses = 0;
        int size = 0;
        boolean closes = false;
        int cost = 0;
        private boolean never = false;
        private int sort = COUNTED;
        private int watched = 0;
        private int start = 0;

        void begin(int in, boolean ring) {
            houses = in;
            size = Integer.bitCount(in);
            closes = ring && size >= 3;
            never = false;
            Arrays.fill(ground, 0);
            Arrays.fill(pairs, 0);
            Arrays.fill(must, 0);
            Arrays.fill(pairCosts, 0);
            Arrays.fill(placeCosts, 0);
        }

        void heedPair(int a, int b, boolean is) {
            if (!is) {
                pairs[a] &= ~(1 << b);
                pairs[b] &= ~(1 << a);
            } else if ((houses >> a & houses >> b & 1) == 1) {
                must[a] |= 1 << b;
                must[b] |= 1 << a;
            } else {
                never = true;
            }
        }

        void heedPlace(int house, int place, boolean is) {
            if (is && ((houses >> house & 1) == 0 || place >= size)) {
                never = true;
            }
            for (int i = 0; i < size; i++) {
                if ((i == place) != is) {
                    ground[i] &= ~(1 << house);
                }
            }
        }

        int count() {
            sort = COUNTED;
            if (never || size == 0) {
                return never ? 0 : 1;
            }
            int count = 0;
            for (int house = 0; house < MOST_HOUSES; house++) {
                count += from(house);
            }
            return count;
        }

        /** The order of that number among all that may be. */
        void pick(int which, Order into) {
            sort = COUNTED;
            into.size = size == 0 ? 0 : NONE;
            int left = which;
            for (int house = 0; house < MOST_HOUSES && into.size == NONE; house++) {
                int count = from(house);
                if (left < count) {
                    tracePicked(left, into);
                } else {
                    left -= count;
                }
            }
        }

        /** Whether there is one; its cost is kept aside. Of like ones the first. */
        boolean cheapest(Order into) {
            sort = CHEAPEST;
            cost = size == 0 ? 0 : NO_WAY;
            into.size = size == 0 ? 0 : NONE;
            for (int house = 0; house < MOST_HOUSES; house++) {
                int next = from(house);
                if (next < cost && size > 0) {
                    cost = next;
                    traceCheapest(into);
                }
            }
            return into.size != NONE;
        }

        /** Those beside a house in all orders that may be, as bits; NONE, as it is all bits, if none may be. */
        int alwaysBeside(int house) {
            sort = ALWAYS;
            watched = house;
            int always = NONE;
            for (int i = 0; i < MOST_HOUSES && !never; i++) {
                always &= from(i);
            }
            return always;
        }

        /** What all orders with that house at place 0 come to. */
        private int from(int house) {
            if (size == 0 || (ground[0] >> house & 1) == 0) {
                return nothing();
            }
            start = house;
            for (int placed = houses; placed > 0; placed--) {
                if ((placed & ~houses) == 0 && (placed >> house & 1) == 1) {
                    fillRow(placed);
                }
            }
            int all = aheadOf(1 << house, house);
            return sort == CHEAPEST ? Math.min(NO_WAY, all + placeCosts[house * MOST_HOUSES]) : all;
        }

        private void fillRow(int placed) {
            boolean alone = placed == 1 << start;
            for (int last = 0; last < MOST_HOUSES; last++) {
                if ((placed >> last & 1) == 1 && (last != start || alone)) {
                    ahead[placed * MOST_HOUSES + last] = placed == houses ? closing(last) : onward(placed, last);
                }
            }
        }

        private int aheadOf(int placed, int last) {
            return ahead[placed * MOST_HOUSES + last];
        }

        private int nothing() {
            switch (sort) {
                case COUNTED:
                    return 0;
                case CHEAPEST:
                    return NO_WAY;
                default:
                    return NONE;
            }
        }

        private int closing(int last) {
            if (!closes) {
                return sort == COUNTED ? 1 : 0;
            }
            if ((pairs[last] >> start & 1) == 0) {
                return nothing();
            }
            switch (sort) {
                case COUNTED:
                    return 1;
                case CHEAPEST:
                    return pairCosts[last * MOST_HOUSES + start];
                default:
                    return seen(last, start);
            }
        }

        private int onward(int placed, int last) {
            int found = nothing();
            int open = openTo(placed, last);
            for (int house = 0; house < MOST_HOUSES && open >> house != 0; house++) {
                if ((open >> house & 1) == 1 && keepsLetters(placed, last, house)) {
                    int next = through(placed, last, house);
                    switch (sort) {
                        case COUNTED:
                            found += next;
                            break;
                        case CHEAPEST:
                            found = Math.min(found, next);
                            break;
                        default:
                            found &= next;
                            break;
                    }
                }
            }
            return found;
        }

        private int openTo(int placed, int last) {
            int place = Integer.bitCount(placed);
            return place < size ? ground[place] & pairs[last] & ~placed : 0;
        }

        /** Those that must be beside a house may stand before it only directly, or where the ring closes. */
        private boolean keepsLetters(int placed, int last, int house) {
            int beside = 1 << last;
            if (closes && (placed | 1 << house) == houses) {
                beside |= 1 << start;
            }
            return (must[house] & placed & ~beside) == 0;
        }

        /** What all ways that go on with a house come to. */
        private int through(int placed, int last, int house) {
            int rest = aheadOf(placed | 1 << house, house);
            if (sort == COUNTED) {
                return rest;
            }
            if (sort == ALWAYS) {
                return rest | seen(last, house);
            }
            int step = pairCosts[last * MOST_HOUSES + house]
                    + placeCosts[house * MOST_HOUSES + Integer.bitCount(placed)];
            return rest >= NO_WAY ? NO_WAY : rest + step;
        }

        private int seen(int a, int b) {
            if (a == watched) {
                return 1 << b;
            }
            return b == watched ? 1 << a : 0;
        }

        private void traceCheapest(Order into) {
            int placed = 1 << start;
            int last = start;
            into.size = 0;
            into.add(start);
            for (int place = 1; place < size; place++) {
                int house = firstAsCheap(placed, last);
                into.add(house);
                placed |= 1 << house;
                last = house;
            }
        }

        private int firstAsCheap(int placed, int last) {
            int open = openTo(placed, last);
            for (int house = 0; house < MOST_HOUSES; house++) {
                if ((open >> house & 1) == 1 && keepsLetters(placed, last, house)
                        && through(placed, last, house) == aheadOf(placed, last)) {
                    return house;
                }
            }
            return last;
        }

        private void tracePicked(int which, Order into) {
            int placed = 1 << start;
            int last = start;
            int left = which;
            into.size = 0;
            into.add(start);
            for (int place = 1; place < size; place++) {
                int open = openTo(placed, last);
                for (int house = 0; house < MOST_HOUSES; house++) {
                    if ((open >> house & 1) == 1 && keepsLetters(placed, last, house)) {
                        int count = aheadOf(placed | 1 << house, house);
                        if (left < count) {
                            into.add(house);
                            placed |= 1 << house;
                            last = house;
                            break;
                        }
                        left -= count;
                    }
                }
            }
        }
    }

    /**
     * Lawful orders, one for each set of neighbours, and what can be made of those that share none. Seven
     * houses have 21 pairs and an order takes n - 1 at least, so that no more than three share none.
     */
    private static final class Families {
        static final int MOST_MEMBERS = 7;
        /** Streets of seven: 7! orders, two and two with the same neighbours. */
        static final int MOST_SETS = 2520;
        static final int SLOTS = 4096;

        private final int[] sets = new int[MOST_SETS];
        /** The first order of each set, four bits a place. */
        private final int[] orders = new int[MOST_SETS];
        private final int[] rest = new int[MOST_SETS];
        private final int[] slots = new int[SLOTS];
        private final int[] bits = new int[PAIRS];
        /** By house: those of a lesser number that could stand in for it anywhere, as bits. */
        private final int[] twins = new int[MOST_HOUSES];
        private int count = 0;
        private int restCount = 0;
        private int size = 0;
        private int union = 0;

        void gather(Ways ways) {
            Arrays.fill(slots, 0);
            count = 0;
            union = 0;
            size = ways.size;
            numberPairs(ways.houses);
            findTwins(ways);
            if (size == 0) {
                put(0, 0);
            }
            for (int house = 0; house < MOST_HOUSES && size > 0 && size <= MOST_MEMBERS; house++) {
                if ((ways.ground[0] >> house & 1) == 1) {
                    walk(ways, 1 << house, house, 0, house);
                }
            }
        }

        private void numberPairs(int houses) {
            int next = 0;
            for (int a = 0; a < MOST_HOUSES; a++) {
                for (int b = 0; b < a; b++) {
                    if ((houses >> a & houses >> b & 1) == 1) {
                        bits[a * MOST_HOUSES + b] = 1 << next;
                        bits[b * MOST_HOUSES + a] = 1 << next;
                        next++;
                    }
                }
            }
        }

        private void findTwins(Ways ways) {
            for (int a = 0; a < MOST_HOUSES; a++) {
                twins[a] = 0;
                for (int b = 0; b < a; b++) {
                    if ((ways.houses >> a & ways.houses >> b & 1) == 1 && areTwins(ways, a, b)) {
                        twins[a] |= 1 << b;
                    }
                }
            }
        }

        private boolean areTwins(Ways ways, int a, int b) {
            int others = ~(1 << a | 1 << b);
            boolean alike = (ways.pairs[a] & others) == (ways.pairs[b] & others);
            for (int place = 0; place < size; place++) {
                alike = alike && (ways.ground[place] >> a & 1) == (ways.ground[place] >> b & 1);
            }
            return alike;
        }

        /**
         * Orders that differ by twins alone can do the same, and of those that can, twins come by number
         * in the first: the others need no trial as leader.
         */
        private boolean mayLead(int order) {
            int placed = 0;
            for (int place = 0; place < size; place++) {
                int house = order >>> 4 * place & 15;
                if (house >= MOST_HOUSES || (twins[house] & ~placed) != 0) {
                    return false;
                }
                placed |= 1 << house;
            }
            return true;
        }

        /** One house a call goes behind those placed; seven at most. */
        private void walk(Ways ways, int placed, int last, int set, int order) {
            int place = Integer.bitCount(placed);
            if (place >= size) {
                close(ways, last, set, order);
                return;
            }
            int open = ways.ground[place] & ways.pairs[last] & ~placed;
            for (int house = 0; house < MOST_HOUSES; house++) {
                if ((open >> house & 1) == 1) {
                    walk(ways, placed | 1 << house, house, set | bits[last * MOST_HOUSES + house],
                            order | house << 4 * place);
                }
            }
        }

        private void close(Ways ways, int last, int set, int order) {
            int start = order & 15;
            if (!ways.closes) {
                put(set, order);
            } else if (start < MOST_HOUSES && (ways.pairs[last] >> start & 1) == 1) {
                put(set | bits[last * MOST_HOUSES + start], order);
            }
        }

        /** Orders come in their order, so the first of each set is the one that is kept. */
        private void put(int set, int order) {
            int slot = set * 0x9E3779B1 >>> 20;
            for (int i = 0; i < SLOTS && slots[slot] != 0; i++) {
                if (slots[slot] == set + 1) {
                    return;
                }
                slot = slot + 1 & SLOTS - 1;
            }
            slots[slot] = set + 1;
            if (count < MOST_SETS) {
                sets[count] = set;
                orders[count] = order;
                count++;
                union |= set;
            }
        }

        int most(Order into) {
            into.size = NONE;
            if (count == 0) {
                return 0;
            }
            int each = Math.max(1, Integer.bitCount(sets[0]));
            int bound = Math.min(3, Integer.bitCount(union) / each);
            for (int wanted = bound; wanted > 1; wanted--) {
                int leader = leaderOf(wanted);
                if (leader != NONE) {
                    unpack(orders[leader], into);
                    return wanted;
                }
            }
            unpack(orders[0], into);
            return 1;
        }

        private void unpack(int order, Order into) {
            into.size = 0;
            for (int place = 0; place < size; place++) {
                into.add(order >>> 4 * place & 15);
            }
        }

        /** The first set that begins so many, two or three, of which none share anything. */
        private int leaderOf(int wanted) {
            for (int i = 0; i < count; i++) {
                if (mayLead(orders[i]) && canLead(i, wanted)) {
                    return i;
                }
            }
            return NONE;
        }

        private boolean canLead(int leader, int wanted) {
            keepApart(leader, leader + 1);
            return restCount > 0 && (wanted == 2 || hasPairApart());
        }

        /** The rest is then what shares nothing with that set, from a number on. */
        private void keepApart(int leader, int from) {
            int set = sets[leader];
            restCount = 0;
            for (int i = from; i < count; i++) {
                if ((sets[i] & set) == 0) {
                    rest[restCount] = sets[i];
                    restCount++;
                }
            }
        }

        private boolean hasPairApart() {
            for (int i = 0; i < restCount; i++) {
                if (hasApart(rest[i], i + 1)) {
                    return true;
                }
            }
            return false;
        }

        private boolean hasApart(int set, int from) {
            for (int i = from; i < restCount; i++) {
                if ((rest[i] & set) == 0) {
                    return true;
                }
            }
            return false;
        }

        /** Who draws up the third order wins, as no fourth can be. */
        boolean beginnerWins() {
            if (size < 2) {
                return count > 0;
            }
            for (int i = 0; i < count; i++) {
                if (mayLead(orders[i]) && winsWith(i)) {
                    return true;
                }
            }
            return false;
        }

        private boolean winsWith(int leader) {
            keepApart(leader, 0);
            for (int i = 0; i < restCount; i++) {
                if (!hasApart(rest[i], 0)) {
                    return false;
                }
            }
            return true;
        }
    }
}
