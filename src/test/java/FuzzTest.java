import java.util.ArrayList;
import java.util.List;
import java.util.Random;

/** Runs of calls by chance (always the same ones), each answered by MayRings and by Plain. */
public final class FuzzTest {
    private static int wrong = 0;
    private static long calls = 0;

    private final Random chance;
    private final int mostHouses;
    private final MayRings real = new MayRings();
    private final Plain plain = new Plain();
    private final List<String> log = new ArrayList<>();
    private int made = 0;

    private FuzzTest(long seed, int mostHouses) {
        this.chance = new Random(seed);
        this.mostHouses = mostHouses;
    }

    public static void main(String[] args) {
        int times = args.length > 0 ? Integer.parseInt(args[0]) : 1;
        long base = args.length > 1 ? Long.parseLong(args[1]) : 0;
        for (int i = 0; i < 6000 * times && wrong == 0; i++) {
            new FuzzTest(base + i, 4).texts(40);
        }
        for (int i = 0; i < 1500 * times && wrong == 0; i++) {
            new FuzzTest(base + 100000 + i, 5).run(300);
        }
        for (int i = 0; i < 150 * times && wrong == 0; i++) {
            new FuzzTest(base + 200000 + i, 6).run(200);
        }
        for (int i = 0; i < 12 * times && wrong == 0; i++) {
            new FuzzTest(base + 300000 + i, 7).run(60);
        }
        for (int i = 0; i < 4 * times && wrong == 0; i++) {
            new FuzzTest(base + 400000 + i, 9).run(60);
        }
        for (int i = 0; i < 240 * times && wrong == 0; i++) {
            new FuzzTest(base + 500000 + i, 4 + i % 4).families();
        }
        System.out.println("FuzzTest: " + calls + " calls, " + (wrong == 0 ? "all alike" : "not alike"));
        if (wrong != 0) {
            System.exit(1);
        }
    }

    private void same(String call, long got, long want) {
        calls++;
        made++;
        log.add(call + " = " + got);
        if (got != want && wrong++ == 0) {
            for (String row : log) {
                System.out.println(row);
            }
            System.out.println("the last answer is not the plain one: " + want);
        }
    }

    private void feed(String text) {
        log.add("text: " + text);
        for (int from = 0; from < text.length() && made < 500; from += 20) {
            int[] five = new int[5];
            for (int i = 0; i < 20; i++) {
                int sign = from + i < text.length() ? text.charAt(from + i) : ' ';
                five[i / 4] = five[i / 4] << 8 | sign;
            }
            same("feed", real.feed(five[0], five[1], five[2], five[3], five[4]), plain.feed(five));
        }
        int length = Math.min(text.length(), 1600);
        same("end(" + length + ")", real.end(length), plain.end(length));
    }

    private void tellValley(String text) {
        same("end(0)", real.end(0), plain.end(0));
        feed(text);
        same("valley()", real.valley(), plain.valley());
        same("fault(0)", real.fault(0), plain.fault(0));
        same("fault(1)", real.fault(1), plain.fault(1));
        same("about(6)", real.about(6), plain.about(6));
    }

    private void texts(int rounds) {
        for (int i = 0; i < rounds && made < 480 && wrong == 0; i++) {
            tellValley(mutated(text(1 + chance.nextInt(mostHouses))));
            for (int what = 0; what < 10; what++) {
                same("about(" + what + ")", real.about(what), plain.about(what));
            }
            for (int a = 0; a < 4; a++) {
                for (int b = 0; b < a; b++) {
                    same("let(" + a + ", " + b + ")", real.let(a, b), plain.let(a, b));
                }
            }
        }
    }

    private String blank() {
        return chance.nextInt(12) == 0 ? "\n" : " ";
    }

    private String name(int house) {
        String[] names = {"a", "bo", "c", "dachshun", "e", "f", "notx", "h", "orr", "j"};
        return names[house % names.length];
    }

    private String text(int houses) {
        StringBuilder text = new StringBuilder();
        int told = chance.nextInt(12) == 0 ? houses - 1 : houses;
        for (int i = 0; i < told; i++) {
            text.append("house").append(blank()).append(name(i)).append(blank()).append("weight")
                    .append(chance.nextBoolean() ? blank() : "").append(1 + chance.nextInt(9)).append(";");
        }
        int lines = chance.nextInt(8);
        boolean[] once = new boolean[3];
        for (int i = 0; i < lines; i++) {
            int sort = chance.nextInt(7);
            if (sort == 0 && (!once[0] || chance.nextInt(20) == 0)) {
                once[0] = true;
                text.append("bears");
                for (int p = 0; p < told; p++) {
                    text.append(" ").append(chance.nextInt(4) == 0 ? 3 + chance.nextInt(7) : 9);
                }
                text.append(";");
            } else if (sort == 1 && (!once[1] || chance.nextInt(20) == 0)) {
                once[1] = true;
                text.append("street ;");
            } else if (sort == 2 && (!once[2] || chance.nextInt(20) == 0)) {
                once[2] = true;
                text.append("law ").append(chance.nextInt(3) == 0 ? "since > 1" : either(3)).append(blank()).append(";");
            } else if (sort == 3 || sort == 4) {
                text.append("wish ").append(name(chance.nextInt(told + 1))).append(blank())
                        .append(name(chance.nextInt(told + 1))).append(" worth ").append(1 + chance.nextInt(9)).append(";");
            } else if (sort == 5) {
                text.append("quarrel ").append(name(chance.nextInt(told + 1))).append(blank())
                        .append(name(chance.nextInt(told + 1))).append(";");
            }
        }
        return text.toString();
    }

    private String either(int depth) {
        String text = both(depth);
        while (chance.nextInt(3) == 0) {
            text += " or " + both(depth);
        }
        return text;
    }

    private String both(int depth) {
        String text = one(depth);
        while (chance.nextInt(4) == 0) {
            text += " and " + one(depth);
        }
        return text;
    }

    private String one(int depth) {
        if (depth > 0 && chance.nextInt(5) == 0) {
            return "not " + one(depth - 1);
        }
        String text = sum(depth);
        if (chance.nextInt(3) > 0) {
            text += "<>=".charAt(chance.nextInt(3)) + sum(depth);
        }
        return text;
    }

    private String sum(int depth) {
        String text = unit(depth);
        while (chance.nextInt(4) == 0) {
            text += "+-*/".charAt(chance.nextInt(4)) + unit(depth);
        }
        return text;
    }

    private String unit(int depth) {
        if (depth > 0 && chance.nextInt(5) == 0) {
            return "(" + either(depth - 1) + ")";
        }
        String[] units = {" light ", " heavy ", " since ", " worth ", " year ", " 99 ", " 1 ", " 9999 ", " 0 "};
        return units[chance.nextInt(units.length)];
    }

    private String mutated(String text) {
        StringBuilder changed = new StringBuilder(text);
        int changes = Math.max(0, chance.nextInt(4) - 1);
        String signs = "abz059 ;()<>=+-*/\n$A\t\u00e4 ";
        String[] words = {" house ", " not ", " law ", " 100 ", " 12345 ", "abcdefghi", " ( ", " ) ", " 12x", ";street;", " year ",
            " 0 ", " bears "};
        for (int i = 0; i < changes && changed.length() > 0; i++) {
            int at = chance.nextInt(changed.length());
            switch (chance.nextInt(5)) {
                case 0 -> changed.deleteCharAt(at);
                case 1 -> changed.insert(at, signs.charAt(chance.nextInt(signs.length())));
                case 2 -> changed.setCharAt(at, signs.charAt(chance.nextInt(signs.length())));
                case 3 -> changed.insert(at, words[chance.nextInt(words.length)]);
                default -> changed.setLength(at);
            }
        }
        return changed.toString();
    }

    private int house() {
        return chance.nextInt(mostHouses + 2) - 1;
    }

    private void run(int rounds) {
        for (int i = 0; i < 6 && real.about(0) < Math.min(2, mostHouses - 2) && made < 200; i++) {
            tellValley(text(mostHouses));
        }
        for (int i = 0; i < rounds && made < 505 && wrong == 0; i++) {
            if (chance.nextInt(60) == 0 && made < 400) {
                tellValley(text(1 + chance.nextInt(mostHouses)));
            }
            step(chance.nextInt(36));
        }
    }

    /** Valleys of few words, so that several orders can share nothing: MAYS and GAME have to search. */
    private void families() {
        StringBuilder text = new StringBuilder();
        int heaviest = 1 + chance.nextInt(4);
        for (int i = 0; i < mostHouses; i++) {
            text.append("house ").append(name(i)).append(" weight ").append(1 + chance.nextInt(heaviest)).append(";");
        }
        if (chance.nextInt(4) > 0) {
            text.append("bears");
            for (int i = 0; i < mostHouses; i++) {
                text.append(" ").append(1 + chance.nextInt(heaviest + 1));
            }
            text.append(";");
        }
        int quarrels = chance.nextInt(mostHouses);
        for (int a = 1; a < mostHouses; a++) {
            for (int b = 0; b < a; b++) {
                if (chance.nextInt(mostHouses * (mostHouses - 1) / 2) < quarrels) {
                    text.append("quarrel ").append(name(a)).append(" ").append(name(b)).append(";");
                }
            }
        }
        tellValley(text.append(chance.nextBoolean() ? "street;" : "").toString());
        for (int year = 0; year < 2 && wrong == 0; year++) {
            same("mays()", real.mays(), plain.mays());
            for (int place = 0; place <= mostHouses; place++) {
                same("lies(" + place + ")", real.lies(place), plain.lies(place));
            }
            same("game()", real.game(), plain.game());
            drawUp();
        }
    }

    private void drawUp() {
        switch (chance.nextInt(5)) {
            case 0 -> same("first()", real.first(), plain.first());
            case 1 -> same("fairest()", real.fairest(), plain.fairest());
            case 2 -> same("nearest()", real.nearest(), plain.nearest());
            default -> same("drawn()", real.drawn(), plain.drawn());
        }
        same("take()", real.take(), plain.take());
        same("judge(2)", real.judge(2), plain.judge(2));
        same("up()", real.up(), plain.up());
    }

    private void lying() {
        int place = chance.nextInt(mostHouses + 1) - (chance.nextInt(9) == 0 ? 1 : 0);
        same("lies(" + place + ")", real.lies(place), plain.lies(place));
        same("lies(0)", real.lies(0), plain.lies(0));
    }

    private void step(int call) {
        int a = house();
        int b = house();
        int k = chance.nextInt(6) - 1;
        boolean is = chance.nextInt(3) > 0;
        switch (call) {
            case 0 -> same("since(" + a + ", " + b + ")", real.since(a, b), plain.since(a, b));
            case 1 -> same("let(" + a + ", " + b + ")", real.let(a, b), plain.let(a, b));
            case 2, 3 -> same("tell(" + a + ")", real.tell(a), plain.tell(a));
            case 4 -> {
                if (chance.nextInt(4) == 0) {
                    same("hush()", real.hush(), plain.hush());
                }
            }
            case 5, 6 -> same("judge(" + k + ")", real.judge(k), plain.judge(k));
            case 7 -> same("lawful()", real.lawful(), plain.lawful());
            case 8 -> same("first()", real.first(), plain.first());
            case 9, 10 -> same("fairest()", real.fairest(), plain.fairest());
            case 11, 12 -> same("nearest()", real.nearest(), plain.nearest());
            case 13 -> same("lift()", real.lift(), plain.lift());
            case 14 -> same("shut()", real.shut(), plain.shut());
            case 15 -> same("drawn()", real.drawn(), plain.drawn());
            case 16 -> same("mays()", real.mays(), plain.mays());
            case 17 -> same("game()", real.game(), plain.game());
            case 18 -> same("ruled(" + k + ", " + a + ")", real.ruled(k, a), plain.ruled(k, a));
            case 19, 20 -> lying();
            case 21 -> same("take()", real.take(), plain.take());
            case 22 -> same("up()", real.up(), plain.up());
            case 23 -> same("stands(" + a + ")", real.stands(a), plain.stands(a));
            case 24 -> {
                boolean burn = chance.nextInt(3) == 0;
                same("burns(" + a + ", " + burn + ")", real.burns(a, burn) ? 1 : 0, plain.burns(a, burn) ? 1 : 0);
            }
            case 25 -> same("beside(" + a + ", " + b + ", " + is + ")", real.beside(a, b, is), plain.beside(a, b, is));
            case 26 -> same("at(" + a + ", " + b + ", " + !is + ")", real.at(a, b, !is), plain.at(a, b, !is));
            case 27 -> {
                int letter = chance.nextInt(12) - 1;
                same("untell(" + letter + ")", real.untell(letter) ? 1 : 0, plain.untell(letter) ? 1 : 0);
            }
            case 28 -> same("later(" + k + ")", real.later(k), plain.later(k));
            case 29, 30 -> {
                int when = real.about(5) - chance.nextInt(4) + chance.nextInt(2);
                same("fits(" + when + ")", real.fits(when), plain.fits(when));
                same("sure(" + a + ", " + when + ")", real.sure(a, when), plain.sure(a, when));
            }
            case 31 -> {
                int w = chance.nextInt();
                same("seed(" + w + ")", real.seed(w), plain.seed(w));
            }
            case 32 -> same("image(" + k + ")", real.image(k), plain.image(k));
            case 33 -> same("back(" + k + ")", real.back(k), plain.back(k));
            case 34 -> drawUp();
            default -> {
                int what = chance.nextInt(12) - 1;
                same("about(" + what + ")", real.about(what), plain.about(what));
            }
        }
    }
}
