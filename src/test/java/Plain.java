import java.util.ArrayList;
import java.util.HashMap;
import java.util.List;
import java.util.Map;

/**
 * The document once more, in the plainest way: every order is walked through, every search tries all.
 * It shares no code and no way of working with MayRings, so that the two can be held against each other.
 */
final class Plain {
    static final class Fault extends Exception {
        private static final long serialVersionUID = 1;
        final int place;
        final int code;

        Fault(int place, int code) {
            this.place = place;
            this.code = code;
        }
    }

    interface Term {
        int value(int light, int heavy, int since, int worth, int year);
    }

    static final class Text {
        List<String> names = new ArrayList<>();
        List<Integer> weights = new ArrayList<>();
        List<Integer> bears = null;
        Map<Integer, Integer> wishes = new HashMap<>();
        List<Integer> quarrels = new ArrayList<>();
        boolean street = false;
        Term law = null;
        int units = 0;
    }

    static final List<String> KEYWORDS = List.of("house", "weight", "bears", "quarrel", "wish", "worth",
            "street", "law", "or", "and", "not", "light", "heavy", "since", "year");

    static final class Parser {
        final String text;
        int at = 0;
        int start = 0;
        String token = "";
        Text told = new Text();

        Parser(String text) {
            this.text = text;
        }

        Text parse() throws Fault {
            next();
            boolean others = false;
            while (!token.isEmpty()) {
                String word = token;
                switch (word) {
                    case "house" -> {
                        check(!others && told.names.size() < 9, 2);
                        next();
                        check(isName(), 2);
                        check(!told.names.contains(token), 3);
                        String name = token;
                        next();
                        eat("weight");
                        told.weights.add(number(1, 99));
                        told.names.add(name);
                    }
                    case "bears" -> {
                        check(told.bears == null, 2);
                        next();
                        told.bears = new ArrayList<>();
                        do {
                            check(isNumber() && told.bears.size() < told.names.size(), 2);
                            told.bears.add(number(0, 999));
                        } while (told.bears.size() < told.names.size() || isNumber());
                    }
                    case "quarrel" -> {
                        check(told.quarrels.size() < 20, 2);
                        next();
                        int a = known();
                        int pair = second(a, told.quarrels);
                        told.quarrels.add(pair);
                    }
                    case "wish" -> {
                        check(told.wishes.size() < 20, 2);
                        next();
                        int a = known();
                        int pair = second(a, new ArrayList<>(told.wishes.keySet()));
                        eat("worth");
                        told.wishes.put(pair, number(1, 99));
                    }
                    case "street" -> {
                        check(!told.street, 2);
                        next();
                        told.street = true;
                    }
                    case "law" -> {
                        check(told.law == null, 2);
                        next();
                        told.law = either(0);
                    }
                    default -> throw new Fault(start, 2);
                }
                others |= !word.equals("house");
                eat(";");
            }
            return told;
        }

        void check(boolean holds, int code) throws Fault {
            if (!holds) {
                throw new Fault(start, code);
            }
        }

        void next() throws Fault {
            while (at < text.length() && (text.charAt(at) == 32 || text.charAt(at) == 10)) {
                at++;
            }
            start = at;
            String rest = text.substring(at);
            String word = rest.replaceFirst("(?s)^([a-z]*).*$", "$1");
            String digits = rest.replaceFirst("(?s)^([0-9]*).*$", "$1");
            if (rest.isEmpty()) {
                token = "";
            } else if (!word.isEmpty()) {
                check(word.length() <= 8, 1);
                token = word;
            } else if (!digits.isEmpty()) {
                check(digits.length() <= 4 && !rest.matches("(?s)[0-9]+[a-z].*"), 1);
                token = digits;
            } else {
                check(";()<>=+-*/".indexOf(rest.charAt(0)) >= 0, 1);
                token = rest.substring(0, 1);
            }
            at += token.length();
        }

        void eat(String due) throws Fault {
            check(token.equals(due), 2);
            next();
        }

        boolean isName() {
            return token.matches("[a-z]+") && !KEYWORDS.contains(token);
        }

        boolean isNumber() {
            return token.matches("[0-9]+");
        }

        int number(int least, int most) throws Fault {
            check(isNumber(), 2);
            int value = Integer.parseInt(token);
            check(value >= least && value <= most, 4);
            next();
            return value;
        }

        int known() throws Fault {
            check(isName(), 2);
            int house = told.names.indexOf(token);
            check(house >= 0, 5);
            next();
            return house;
        }

        int second(int a, List<Integer> pairs) throws Fault {
            check(isName(), 2);
            int b = told.names.indexOf(token);
            check(b >= 0, 5);
            check(a != b && !pairs.contains(pair(a, b)), 3);
            next();
            return pair(a, b);
        }

        Term either(int within) throws Fault {
            Term left = both(within);
            while (token.equals("or")) {
                next();
                Term a = left;
                Term b = both(within);
                left = (l, h, s, w, y) -> a.value(l, h, s, w, y) != 0 | b.value(l, h, s, w, y) != 0 ? 1 : 0;
            }
            return left;
        }

        Term both(int within) throws Fault {
            Term left = one(within);
            while (token.equals("and")) {
                next();
                Term a = left;
                Term b = one(within);
                left = (l, h, s, w, y) -> a.value(l, h, s, w, y) != 0 & b.value(l, h, s, w, y) != 0 ? 1 : 0;
            }
            return left;
        }

        Term one(int within) throws Fault {
            if (token.equals("not")) {
                check(within < 7, 2);
                next();
                Term a = one(within + 1);
                return (l, h, s, w, y) -> a.value(l, h, s, w, y) == 0 ? 1 : 0;
            }
            Term a = sum(within);
            if (!List.of("<", ">", "=").contains(token)) {
                return a;
            }
            String sign = token;
            next();
            Term b = sum(within);
            return (l, h, s, w, y) -> {
                int order = Integer.compare(a.value(l, h, s, w, y), b.value(l, h, s, w, y));
                return order == List.of("<", "=", ">").indexOf(sign) - 1 ? 1 : 0;
            };
        }

        Term sum(int within) throws Fault {
            Term left = term(within);
            while (token.equals("+") || token.equals("-")) {
                int times = token.equals("+") ? 1 : -1;
                next();
                Term a = left;
                Term b = term(within);
                left = (l, h, s, w, y) -> a.value(l, h, s, w, y) + times * b.value(l, h, s, w, y);
            }
            return left;
        }

        Term term(int within) throws Fault {
            Term left = unit(within);
            while (token.equals("*") || token.equals("/")) {
                boolean times = token.equals("*");
                next();
                Term a = left;
                Term b = unit(within);
                left = (l, h, s, w, y) -> {
                    int x = a.value(l, h, s, w, y);
                    int z = b.value(l, h, s, w, y);
                    return times ? x * z : z == 0 ? 0 : x / z;
                };
            }
            return left;
        }

        Term unit(int within) throws Fault {
            String word = token;
            boolean open = word.equals("(");
            check(open || isNumber() || List.of("light", "heavy", "since", "worth", "year").contains(word), 2);
            check(told.units < 40 && (!open || within < 7), 2);
            told.units++;
            next();
            if (open) {
                Term inner = either(within + 1);
                eat(")");
                return inner;
            }
            return switch (word) {
                case "light" -> (l, h, s, w, y) -> l;
                case "heavy" -> (l, h, s, w, y) -> h;
                case "since" -> (l, h, s, w, y) -> s;
                case "worth" -> (l, h, s, w, y) -> w;
                case "year" -> (l, h, s, w, y) -> y;
                default -> (l, h, s, w, y) -> Integer.parseInt(word);
            };
        }
    }

    static int pair(int a, int b) {
        return Math.min(a, b) * 9 + Math.max(a, b);
    }

    record Letter(boolean ofPlace, int house, int where, boolean is, int from, int[] to) {
    }

    record Kept(List<int[]> mays, List<Integer> out, int[] standing, int w) {
    }

    StringBuilder tape = new StringBuilder();
    Text text = new Text();
    int fault = 0;
    int faultPlace = -1;
    List<int[]> mays = new ArrayList<>();
    List<Integer> out = new ArrayList<>();
    int[] standing = null;
    int w = 1;
    List<Letter> letters = new ArrayList<>();
    int time = 0;
    Kept[] boxes = new Kept[3];
    List<Integer> told = new ArrayList<>();
    int[] lying = null;

    int feed(int... numbers) {
        if (tape.length() + 20 > 1600) {
            return -1;
        }
        for (int number : numbers) {
            for (int i = 3; i >= 0; i--) {
                tape.append((char) (number >> 8 * i & 255));
            }
        }
        return tape.length();
    }

    int end(int n) {
        if (n < 0 || n > tape.length()) {
            return -1;
        }
        tape.setLength(n);
        return n;
    }

    int valley() {
        Text fresh;
        try {
            fresh = new Parser(tape.toString()).parse();
        } catch (Fault f) {
            fault = f.code;
            faultPlace = f.place;
            return -1;
        }
        text = fresh;
        fault = 0;
        faultPlace = -1;
        tape.setLength(0);
        mays = new ArrayList<>();
        out = new ArrayList<>();
        standing = null;
        letters = new ArrayList<>();
        boxes = new Kept[3];
        told.clear();
        lying = null;
        return text.names.size();
    }

    int fault(int what) {
        return what == 0 ? fault : what == 1 ? faultPlace : -1;
    }

    List<Integer> in() {
        List<Integer> in = new ArrayList<>();
        for (int i = 0; i < text.names.size(); i++) {
            if (!out.contains(i)) {
                in.add(i);
            }
        }
        return in;
    }

    boolean two(int a, int b) {
        return a != b && in().contains(a) && in().contains(b);
    }

    /** The pairs of neighbours of an order. */
    List<Integer> neighbours(int[] order) {
        List<Integer> pairs = new ArrayList<>();
        for (int p = 0; p + 1 < order.length; p++) {
            pairs.add(pair(order[p], order[p + 1]));
        }
        if (!text.street && order.length > 2) {
            pairs.add(pair(order[order.length - 1], order[0]));
        }
        return pairs;
    }

    int ago(int a, int b) {
        for (int back = 1; back <= 99 && back <= mays.size(); back++) {
            if (neighbours(mays.get(mays.size() - back)).contains(pair(a, b))) {
                return back;
            }
        }
        return 99;
    }

    int since(int a, int b) {
        return two(a, b) ? ago(a, b) : -1;
    }

    boolean isLet(int a, int b) {
        if (text.quarrels.contains(pair(a, b))) {
            return false;
        }
        if (text.law == null) {
            return ago(a, b) == 99;
        }
        int u = text.weights.get(a);
        int v = text.weights.get(b);
        return text.law.value(Math.min(u, v), Math.max(u, v), ago(a, b),
                text.wishes.getOrDefault(pair(a, b), 0), mays.size() + 1) != 0;
    }

    int let(int a, int b) {
        return two(a, b) ? isLet(a, b) ? 1 : 0 : -1;
    }

    int tell(int house) {
        if (!in().contains(house) || told.contains(house)) {
            return -1;
        }
        told.add(house);
        return told.size();
    }

    int hush() {
        int were = told.size();
        told.clear();
        return were;
    }

    int[] toldOrder() {
        return told.stream().mapToInt(i -> i).toArray();
    }

    boolean tooHeavy(int house, int place) {
        return text.bears != null && text.weights.get(house) > text.bears.get(place);
    }

    int firstWrong(int[] order) {
        for (int p = 0; p < order.length; p++) {
            if (tooHeavy(order[p], p)) {
                return p;
            }
            boolean last = p == order.length - 1;
            if (!last && !isLet(order[p], order[p + 1])
                    || last && !text.street && order.length > 2 && !isLet(order[p], order[0])) {
                return p;
            }
        }
        return -1;
    }

    int worth(int[] order) {
        return neighbours(order).stream().mapToInt(p -> text.wishes.getOrDefault(p, 0)).sum();
    }

    int haul(int[] order) {
        if (standing == null) {
            return 0;
        }
        int all = 0;
        int n = order.length;
        for (int p = 0; p < n; p++) {
            for (int q = 0; q < n; q++) {
                if (standing[q] == order[p]) {
                    int one = Math.floorMod(p - q, n);
                    int far = text.street ? Math.abs(p - q) : Math.min(one, n - one);
                    all += text.weights.get(order[p]) * far;
                }
            }
        }
        return all;
    }

    int judge(int what) {
        int[] order = toldOrder();
        if (order.length != in().size() || what < 0 || what > 2) {
            return -2;
        }
        return what == 0 ? firstWrong(order) : what == 1 ? worth(order) : haul(order);
    }

    /** All orders, the first first. */
    List<int[]> orders() {
        List<int[]> all = new ArrayList<>();
        List<Integer> in = in();
        permute(in.stream().mapToInt(i -> i).toArray(), new int[in.size()], 0, 0, all);
        return all;
    }

    static void permute(int[] from, int[] into, int place, int used, List<int[]> all) {
        if (place == from.length) {
            all.add(into.clone());
            return;
        }
        for (int i = 0; i < from.length; i++) {
            if ((used >> i & 1) == 0) {
                into[place] = from[i];
                permute(from, into, place + 1, used | 1 << i, all);
            }
        }
    }

    List<int[]> lawfulOrders() {
        int n = text.names.size();
        boolean[] lets = new boolean[81];
        for (int a = 0; a < n; a++) {
            for (int b = a + 1; b < n; b++) {
                lets[pair(a, b)] = isLet(a, b);
            }
        }
        List<int[]> lawful = new ArrayList<>();
        for (int[] order : orders()) {
            boolean holds = true;
            for (int p = 0; p < order.length && holds; p++) {
                holds = !tooHeavy(order[p], p) && (p == 0 || lets[pair(order[p - 1], order[p])]);
            }
            int last = order.length - 1;
            if (holds && last >= 2 && !text.street) {
                holds = lets[pair(order[last], order[0])];
            }
            if (holds) {
                lawful.add(order);
            }
        }
        return lawful;
    }

    int lawful() {
        return lawfulOrders().size();
    }

    int first() {
        List<int[]> lawful = lawfulOrders();
        lying = lawful.isEmpty() ? null : lawful.get(0);
        return lawful.isEmpty() ? 0 : 1;
    }

    int fairest() {
        lying = null;
        for (int[] order : lawfulOrders()) {
            if (lying == null || worth(order) > worth(lying)) {
                lying = order;
            }
        }
        return lying == null ? -1 : worth(lying);
    }

    int nearest() {
        lying = null;
        int best = 0;
        for (int[] order : lawfulOrders()) {
            int haul = haul(order);
            if (lying == null || haul < best) {
                lying = order;
                best = haul;
            }
        }
        return lying == null ? -1 : best;
    }

    int lift() {
        lying = null;
        int best = -1;
        int n = text.names.size();
        boolean[] lets = new boolean[81];
        for (int a = 0; a < n; a++) {
            for (int b = a + 1; b < n; b++) {
                lets[pair(a, b)] = isLet(a, b);
            }
        }
        for (int[] order : orders()) {
            boolean borne = true;
            for (int p = 0; p < order.length && borne; p++) {
                borne = !tooHeavy(order[p], p);
            }
            if (borne) {
                int bars = (int) neighbours(order).stream().filter(p -> !lets[p]).count();
                if (lying == null || bars < best) {
                    lying = order;
                    best = bars;
                }
            }
        }
        return best;
    }

    int shut() {
        List<Integer> in = in();
        int bits = 0;
        for (int house : in) {
            int friends = 0;
            for (int other : in) {
                friends += other != house && isLet(house, other) ? 1 : 0;
            }
            int need = in.size() == 1 ? 0 : text.street || in.size() == 2 ? 1 : 2;
            boolean borne = false;
            for (int p = 0; p < in.size(); p++) {
                borne |= !tooHeavy(house, p);
            }
            if (friends < need || !borne) {
                bits |= 1 << house;
            }
        }
        return bits;
    }

    int drawn() {
        List<int[]> lawful = lawfulOrders();
        lying = null;
        if (lawful.isEmpty()) {
            return -1;
        }
        w = w * 1103515245 + 12345;
        int which = (w >>> 16) % lawful.size();
        lying = lawful.get(which);
        return which;
    }

    /** Lawful orders, of those with the same neighbours the first; with their pairs as bits. */
    Map<Long, int[]> kinds() {
        Map<Long, int[]> kinds = new java.util.LinkedHashMap<>();
        for (int[] order : lawfulOrders()) {
            long bits = 0;
            for (int pair : neighbours(order)) {
                int a = pair / 9;
                int b = pair % 9;
                bits |= 1L << b * (b - 1) / 2 + a;
            }
            kinds.putIfAbsent(bits, order);
        }
        return kinds;
    }

    static int most(long[] kinds, int from, long used, Map<Long, Integer> known) {
        int best = 0;
        for (int i = from; i < kinds.length; i++) {
            if ((kinds[i] & used) == 0) {
                best = Math.max(best, 1 + most(kinds, i + 1, used | kinds[i], known));
            }
        }
        return best;
    }

    int mays() {
        lying = null;
        if (in().size() > 7) {
            return -2;
        }
        Map<Long, int[]> kinds = kinds();
        long[] bits = kinds.keySet().stream().mapToLong(i -> i).toArray();
        int best = 0;
        for (int i = 0; i < bits.length; i++) {
            int with = 1 + most(bits, i + 1, bits[i], null);
            if (with > best) {
                best = with;
                lying = kinds.get(bits[i]);
            }
        }
        return best;
    }

    static boolean moverWins(long[] kinds, long used, List<Long> drawn) {
        for (long kind : kinds) {
            if ((kind & used) == 0 && !drawn.contains(kind)) {
                List<Long> more = new ArrayList<>(drawn);
                more.add(kind);
                if (!moverWins(kinds, used | kind, more)) {
                    return true;
                }
            }
        }
        return false;
    }

    int game() {
        if (in().size() > 7) {
            return -2;
        }
        long[] bits = kinds().keySet().stream().mapToLong(i -> i).toArray();
        return moverWins(bits, 0, new ArrayList<>()) ? 1 : 0;
    }

    int ruled(int i, int place) {
        int n = text.names.size();
        if (!out.isEmpty() || n < 3 || n % 2 == 0 || i < 0 || i > (n - 1) / 2 - 1 || place < 0 || place >= n) {
            return -1;
        }
        if (place == 0) {
            return n - 1;
        }
        int house = place % 2 == 0 ? i + place / 2 : i - place / 2;
        while (house < 0) {
            house += n - 1;
        }
        while (house > n - 2) {
            house -= n - 1;
        }
        return house;
    }

    int lies(int place) {
        return lying == null || place < 0 || place >= lying.length ? -1 : lying[place];
    }

    int take() {
        if (lying == null) {
            return -1;
        }
        told.clear();
        for (int house : lying) {
            told.add(house);
        }
        return told.size();
    }

    int up() {
        int[] order = toldOrder();
        if (order.length != in().size() || firstWrong(order) != -1 || mays.size() == 200) {
            return -1;
        }
        mays.add(order);
        standing = order;
        told.clear();
        return mays.size();
    }

    int stands(int place) {
        return standing == null || place < 0 || place >= standing.length ? -1 : standing[place];
    }

    boolean burns(int house, boolean is) {
        if (house < 0 || house >= text.names.size() || out.contains(house) == is) {
            return false;
        }
        if (is) {
            out.add(house);
        } else {
            out.remove((Integer) house);
        }
        standing = null;
        told.clear();
        lying = null;
        return true;
    }

    int write(boolean ofPlace, int house, int where, boolean is) {
        if (letters.size() == 20) {
            return -1;
        }
        letters.add(new Letter(ofPlace, house, where, is, time, new int[] {Integer.MAX_VALUE, 0}));
        return letters.size() - 1;
    }

    boolean wasTold(int house) {
        return house >= 0 && house < text.names.size();
    }

    int beside(int a, int b, boolean is) {
        return a == b || !wasTold(a) || !wasTold(b) ? -1 : write(false, a, b, is);
    }

    int at(int house, int place, boolean is) {
        return !wasTold(house) || place < 0 || place > 8 ? -1 : write(true, house, place, is);
    }

    boolean untell(int letter) {
        if (letter < 0 || letter >= letters.size() || letters.get(letter).to[1] == 1) {
            return false;
        }
        letters.get(letter).to[0] = time;
        letters.get(letter).to[1] = 1;
        return true;
    }

    int later(int by) {
        if (by < 0 || by > 1000 || time + by > 100000) {
            return -1;
        }
        time += by;
        return time;
    }

    List<int[]> fitting(int k) {
        List<int[]> fitting = new ArrayList<>();
        for (int[] order : lawfulOrders()) {
            List<Integer> pairs = neighbours(order);
            boolean fits = true;
            for (Letter letter : letters) {
                if (letter.from <= k && !(letter.to[1] == 1 && letter.to[0] <= k)) {
                    boolean holds = letter.ofPlace
                            ? letter.where < order.length && order[letter.where] == letter.house
                            : pairs.contains(pair(letter.house, letter.where));
                    fits &= holds == letter.is;
                }
            }
            if (fits) {
                fitting.add(order);
            }
        }
        return fitting;
    }

    int fits(int k) {
        return fitting(k).size();
    }

    int sure(int house, int k) {
        List<int[]> fitting = fitting(k);
        if (!in().contains(house) || fitting.isEmpty()) {
            return -1;
        }
        int bits = 0;
        for (int other : in()) {
            if (other != house && fitting.stream().allMatch(o -> neighbours(o).contains(pair(house, other)))) {
                bits |= 1 << other;
            }
        }
        return bits;
    }

    int seed(int next) {
        int was = w;
        w = next;
        return was;
    }

    int image(int box) {
        if (box < 0 || box > 2) {
            return -1;
        }
        boxes[box] = new Kept(new ArrayList<>(mays), new ArrayList<>(out), standing, w);
        return mays.size();
    }

    int back(int box) {
        if (box < 0 || box > 2 || boxes[box] == null) {
            return -1;
        }
        Kept kept = boxes[box];
        mays = new ArrayList<>(kept.mays);
        out = new ArrayList<>(kept.out);
        standing = kept.standing;
        w = kept.w;
        told.clear();
        lying = null;
        return mays.size();
    }

    int about(int what) {
        return switch (what) {
            case 0 -> text.names.size();
            case 1 -> in().size();
            case 2 -> mays.size();
            case 3 -> told.size();
            case 4 -> letters.size();
            case 5 -> time;
            case 6 -> tape.length();
            case 7 -> w;
            case 8 -> text.units;
            case 9 -> text.street ? 1 : 0;
            default -> -1;
        };
    }
}
