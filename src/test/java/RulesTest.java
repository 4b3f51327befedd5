import java.lang.management.ManagementFactory;
import java.lang.reflect.Field;
import java.lang.reflect.Method;
import java.lang.reflect.Modifier;
import java.nio.file.Files;
import java.nio.file.Path;
import java.util.ArrayList;
import java.util.Arrays;
import java.util.List;
import java.util.TreeSet;
import java.util.regex.Matcher;
import java.util.regex.Pattern;

/** What of LANGUAGE.md can be seen in the source or measured; it runs in the project's folder. */
public final class RulesTest {
    private static final String FACE = "int feed(int, int, int, int, int); int end(int); int valley(); int fault(int);"
            + " int since(int, int); int let(int, int); int tell(int); int hush(); int judge(int); int lawful();"
            + " int first(); int fairest(); int nearest(); int lift(); int shut(); int drawn(); int mays(); int game();"
            + " int ruled(int, int); int lies(int); int take(); int up(); int stands(int); boolean burns(int, boolean);"
            + " int beside(int, int, boolean); int at(int, int, boolean); boolean untell(int); int later(int);"
            + " int fits(int); int sure(int, int); int seed(int); int image(int); int back(int); int about(int)";
    private static int wrong = 0;

    public static void main(String[] args) throws Exception {
        String source = Files.readString(Path.of("src/main/java/MayRings.java"));
        face();
        classes();
        words(bare(source));
        methodsAreShort(source);
        callsMakeNothing();
        System.out.println("RulesTest: " + (wrong == 0 ? "kept" : wrong + " broken"));
        if (wrong != 0) {
            System.exit(1);
        }
    }

    private static void check(boolean holds, String rule) {
        if (!holds) {
            wrong++;
            System.out.println("not kept: " + rule);
        }
    }

    /** The source without comments and without what stands in texts. */
    private static String bare(String source) {
        return source.replaceAll("(?s)/\\*.*?\\*/", "").replaceAll("//[^\n]*", "")
                .replaceAll("\"(\\\\.|[^\"\\\\\n])*\"", "\"\"");
    }

    private static void face() {
        TreeSet<String> due = new TreeSet<>(Arrays.asList(FACE.split("; ")));
        TreeSet<String> found = new TreeSet<>();
        for (Method method : MayRings.class.getDeclaredMethods()) {
            if (Modifier.isPublic(method.getModifiers())) {
                List<String> types = new ArrayList<>();
                for (Class<?> type : method.getParameterTypes()) {
                    types.add(type.getName());
                }
                found.add(method.getReturnType().getName() + " " + method.getName() + "(" + String.join(", ", types) + ")");
            } else {
                check(Modifier.isPrivate(method.getModifiers()), "1: private " + method);
            }
        }
        check(found.equals(due), "1: the face is " + found);
        for (Field field : MayRings.class.getDeclaredFields()) {
            boolean isPublic = field.getName().equals("NONE");
            check(isPublic ? Modifier.isPublic(field.getModifiers()) : Modifier.isPrivate(field.getModifiers()), "1: " + field);
        }
        check(Modifier.isFinal(MayRings.class.getModifiers()), "1: the class is final");
        check(MayRings.class.getConstructors().length == 1, "1: one constructor");
    }

    private static void classes() {
        List<Class<?>> all = new ArrayList<>(Arrays.asList(MayRings.class.getDeclaredClasses()));
        for (Class<?> inner : all) {
            check(Modifier.isStatic(inner.getModifiers()), "2: static " + inner);
        }
        all.add(MayRings.class);
        check(all.size() <= 12, "11: classes " + all.size());
        TreeSet<String> names = new TreeSet<>();
        for (Method method : MayRings.class.getMethods()) {
            names.add(method.getName());
        }
        for (Class<?> one : all) {
            int fields = 0;
            for (Field field : one.getDeclaredFields()) {
                boolean constant = Modifier.isStatic(field.getModifiers());
                check(!constant || Modifier.isFinal(field.getModifiers()), "5: final " + field);
                fields += constant ? 0 : 1;
            }
            check(fields <= 20, "11: fields of " + one + ": " + fields);
            for (Method method : one.getDeclaredMethods()) {
                check(method.getParameterCount() <= 7, "11: parameters of " + method);
                check(Modifier.isPublic(method.getModifiers()) || !names.contains(method.getName()), "1: the name of " + method);
            }
        }
    }

    private static void words(String bare) {
        Matcher words = Pattern.compile("\\b(throws?|try|catch|finally|synchronized|assert|native|transient|volatile|var|"
                + "Object|Thread|Random|System\\.(?!arraycopy)\\w+|Math\\.\\w+Exact|Collections|Stream|Map|Set|"
                + "hashCode|toString|package|double|float)\\b").matcher(bare);
        while (words.find()) {
            check(false, "the word " + words.group());
        }
        check(!bare.contains("->") && !bare.contains("::"), "2: no lambda, no method reference");
        Matcher imports = Pattern.compile("import ([^;]*);").matcher(bare);
        while (imports.find()) {
            check(List.of("java.util.Arrays", "java.util.ArrayList", "java.util.List").contains(imports.group(1)),
                    "4: import " + imports.group(1));
        }
        check(bare.chars().allMatch(c -> c < 128), "signs are 0 to 127");
        check(!bare.contains("while (true)") && !bare.contains("for (;;)"), "9: loops end");
    }

    private static void methodsAreShort(String source) {
        String[] lines = source.split("\n");
        int from = -1;
        String close = "";
        for (int i = 0; i < lines.length; i++) {
            Matcher head = Pattern.compile("^( {4}| {8})[A-Za-z].*\\) \\{$").matcher(lines[i]);
            if (head.matches()) {
                from = i;
                close = head.group(1) + "}";
            } else if (from >= 0 && lines[i].equals(close)) {
                check(i - from < 60, "11: short methods: " + lines[from]);
                from = -1;
            }
        }
    }

    /** All rows are made with the object; a run of calls makes nothing more. */
    private static void callsMakeNothing() {
        com.sun.management.ThreadMXBean room = (com.sun.management.ThreadMXBean) ManagementFactory.getThreadMXBean();
        long self = Thread.currentThread().getId();
        for (int i = 0; i < 5; i++) {
            callAll(new MayRings());
        }
        long before = room.getThreadAllocatedBytes(self);
        MayRings x = new MayRings();
        long made = room.getThreadAllocatedBytes(self);
        callAll(x);
        long after = room.getThreadAllocatedBytes(self);
        check(made - before < 200000, "12: an object takes " + (made - before) + " bytes");
        check(after - made < 1000, "12: calls take " + (after - made) + " bytes");
    }

    private static void callAll(MayRings x) {
        // "house a weight 5;house b weight 3;house c weight 4;house d weight 2;house e weight 1;"
        x.feed(1752135027, 1696620832, 2003134823, 1752440885, 996700021);
        x.feed(1936007266, 544695657, 1734898720, 859531375, 1970496800);
        x.feed(1663072101, 1768384628, 540293992, 1869968229, 543432823);
        x.feed(1701406568, 1948267067, 1752135027, 1696621856, 2003134823);
        x.feed(1752440881, 991961120, 538976288, 538976288, 538976288);
        x.valley();
        for (int i = 0; i < 3; i++) {
            x.lawful();
            x.lift();
            x.fairest();
            x.nearest();
            x.mays();
            x.game();
            x.drawn();
            x.take();
            x.judge(2);
            x.up();
            x.image(i);
            x.beside(0, 1, true);
            x.at(2, 3, false);
            x.fits(0);
            x.sure(0, 0);
            x.shut();
            x.back(0);
        }
    }
}
