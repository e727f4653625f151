import java.lang.reflect.Constructor;
import java.lang.reflect.Field;
import java.lang.reflect.Method;
import java.lang.reflect.Modifier;
import java.nio.charset.StandardCharsets;
import java.nio.file.Files;
import java.nio.file.Path;
import java.util.Arrays;
import java.util.Random;
import java.util.Set;
import java.util.TreeSet;
import java.util.regex.Matcher;
import java.util.regex.Pattern;

/** The face of the class, the rules of LANGUAGE.md that a text or a class file shows, wild arguments, and what calls make. */
public final class LanguageTest {
    private static final Path SOURCE = Path.of("src/main/java/ThreeSundays.java");
    private static final String[] FACE = {
        "feed(int,int,int,int,int)int", "end(int)int", "town()int", "fault(int)int", "person(int,int)int",
        "pair(int,int)int", "degree(int,int)int", "ancestors(int)int", "hearing(int)int", "church(int,int)int",
        "sit(int,int)int", "move(int,int,int)int", "licence(int)boolean", "sunday()int", "undo()boolean",
        "redo()boolean", "quiet(int,int,int,int)int", "quietest(int,int)int", "hush(int,int)int",
        "will(int,int,int)int", "settles(int)int", "season(int)int", "law(int)int", "free()int",
        "sits(int,boolean)int", "knew(int,boolean)int", "kin(int,int,boolean)int", "untell(int)boolean",
        "later(int)int", "meant(int)int", "ask(int,int)int", "image(int)int", "back(int)int", "about(int)int"};
    private static int wrong = 0;

    private static void must(boolean is, String what) {
        if (!is) {
            wrong++;
            System.out.println("not so: " + what);
        }
    }

    public static void main(String[] args) throws Exception {
        face();
        classes();
        words();
        lengths();
        wildArguments();
        whatCallsMake();
        System.out.println(wrong == 0 ? "the rules are kept" : wrong + " rules are broken");
        if (wrong != 0) {
            System.exit(1);
        }
    }

    private static String signature(Method m) {
        StringBuilder b = new StringBuilder(m.getName()).append('(');
        for (Class<?> c : m.getParameterTypes()) {
            b.append(b.charAt(b.length() - 1) == '(' ? "" : ",").append(c.getName());
        }
        return b.append(')').append(m.getReturnType().getName()).toString();
    }

    private static void face() {
        Class<?> it = ThreeSundays.class;
        must(Modifier.isPublic(it.getModifiers()) && Modifier.isFinal(it.getModifiers()), "public and final");
        Set<String> seen = new TreeSet<>();
        for (Method m : it.getDeclaredMethods()) {
            if (!Modifier.isPrivate(m.getModifiers())) {
                seen.add(signature(m));
                must(Modifier.isPublic(m.getModifiers()) && !Modifier.isStatic(m.getModifiers()), m.getName() + " is public");
            }
        }
        must(seen.equals(new TreeSet<>(Arrays.asList(FACE))), "the methods of the face: " + seen);
        for (Field f : it.getDeclaredFields()) {
            must(Modifier.isPrivate(f.getModifiers()) || f.getName().equals("NONE"), f.getName() + " is private");
        }
        Constructor<?>[] made = it.getDeclaredConstructors();
        must(made.length == 1 && made[0].getParameterCount() == 0 && Modifier.isPublic(made[0].getModifiers()), "one constructor");
    }

    private static void classes() {
        Class<?>[] inside = ThreeSundays.class.getDeclaredClasses();
        must(inside.length < 12, "at most twelve classes");
        Set<String> face = new TreeSet<>();
        for (String s : FACE) {
            face.add(s.substring(0, s.indexOf('(')));
        }
        for (Class<?> c : inside) {
            must(Modifier.isStatic(c.getModifiers()) && !Modifier.isPublic(c.getModifiers()), c + " is static");
            members(c);
            for (Method m : c.getDeclaredMethods()) {
                must(!face.contains(m.getName()), c + "." + m.getName() + " bears a public name");
            }
        }
        members(ThreeSundays.class);
        for (Method m : ThreeSundays.class.getDeclaredMethods()) {
            must(Modifier.isPublic(m.getModifiers()) || !face.contains(m.getName()), m.getName() + " bears a public name");
        }
    }

    private static void members(Class<?> c) {
        int fields = 0;
        for (Field f : c.getDeclaredFields()) {
            if (Modifier.isStatic(f.getModifiers())) {
                must(Modifier.isFinal(f.getModifiers()), c + "." + f.getName() + " is final");
                must(f.getType() == int.class || f.getType() == String.class, c + "." + f.getName() + " is a constant");
            } else {
                fields++;
            }
        }
        must(fields <= 20, c + " has few fields");
        for (Method m : c.getDeclaredMethods()) {
            must(m.getParameterCount() <= 7, m + " takes few parameters");
            must(!m.isSynthetic(), m + " is written out");
        }
    }

    private static String code() throws Exception {
        String text = Files.readString(SOURCE, StandardCharsets.UTF_8);
        for (int k = 0; k < text.length(); k++) {
            must(text.charAt(k) == '\n' || text.charAt(k) >= 32 && text.charAt(k) < 127, "plain signs alone");
        }
        return text.replaceAll("(?s)/\\*.*?\\*/", "").replaceAll("//[^\n]*", "")
                .replaceAll("\"[^\"\n]*\"", "\"\"").replaceAll("'[^'\n]+'", "' '");
    }

    private static void words() throws Exception {
        String code = code();
        String[] banned = {"\\bthrow\\b", "\\bthrows\\b", "\\btry\\b", "\\bcatch\\b", "\\bfinally\\b", "\\bsynchronized\\b",
            "\\bassert\\b", "->", "::", "Exact\\b", "\\bstatic\\s*\\{", "\\bhashCode\\b", "\\btoString\\b", "\\bdouble\\b",
            "\\bfloat\\b", "\\bThread\\b", "\\bRandom\\b", "\\bpackage\\b", "\\bObject\\b", "\\bnative\\b", "\\bvar\\b",
            "\\bwhile\\s*\\(true", "\\bfor\\s*\\(\\s*;\\s*;", "System\\.(?!arraycopy)", "Arrays\\.(?!fill|copyOf|copyOfRange)",
            "\\[\\]\\s*\\[\\]\\s*\\[\\]", "\"\\s*\\+", "\\+\\s*\"", "\\bnull\\b"};
        for (String b : banned) {
            Matcher m = Pattern.compile(b).matcher(code);
            must(!m.find(), "the source is free of " + b);
        }
        Matcher imports = Pattern.compile("import ([^;]*);").matcher(code);
        while (imports.find()) {
            must(imports.group(1).matches("java\\.util\\.(Arrays|List|ArrayList)"), "an import of the list: " + imports.group(1));
        }
    }

    private static void lengths() throws Exception {
        String[] lines = code().split("\n", -1);
        for (int k = 0; k < lines.length; k++) {
            must(lines[k].length() <= 130, "line " + (k + 1) + " is short");
            Matcher head = Pattern.compile("^( +)(?!.*\\bclass\\b).*\\) \\{$").matcher(lines[k]);
            if (head.find() && (head.group(1).length() == 4 || head.group(1).length() == 8)) {
                int end = k;
                while (end < lines.length && !lines[end].equals(head.group(1) + "}")) {
                    end++;
                }
                must(end - k <= 60, "the method at line " + (k + 1) + " is short");
            }
        }
    }

    private static final String TOWN = "church c;church d;church e;church f;person a in c;person b in d of a;person g in e of a;person h in f of b and g;"
            + "person i in c;person j in d;person k in e sails 9;person l in f;pair a b;pair g h;pair i j;pair k l;pair i l at c c;"
            + "knows a i;knows b j;knows g l;spites h i;spites j k;spites l a;hears (sunday%7+read*3-seated)*own or 1<2 and not 0;calls 1;";

    private static int[] numbers(String text) {
        byte[] bytes = text.getBytes(StandardCharsets.ISO_8859_1);
        int[] numbers = new int[(bytes.length + 19) / 20 * 5];
        for (int k = 0; k < bytes.length; k++) {
            numbers[k / 4] |= (bytes[k] & 255) << 24 - k % 4 * 8;
        }
        return numbers;
    }

    private static void tell(ThreeSundays x, int[] numbers, int length) {
        x.end(0);
        for (int k = 0; k < numbers.length; k += 5) {
            x.feed(numbers[k], numbers[k + 1], numbers[k + 2], numbers[k + 3], numbers[k + 4]);
        }
        x.end(length);
        must(x.town() == 8, "the town is sound");
    }

    private static void wildArguments() throws Exception {
        Random dice = new Random(5);
        int[] edges = {-1, 0, 1, 2, 3, 4, 5, 7, 8, 9, 29, 30, 31, 32, 60, 61, 63, 64, 1000, 1600, Integer.MIN_VALUE, Integer.MAX_VALUE};
        Method[] calls = ThreeSundays.class.getDeclaredMethods();
        Arrays.sort(calls, (a, b) -> a.getName().compareTo(b.getName()));
        for (int run = 0; run < 200; run++) {
            ThreeSundays x = new ThreeSundays();
            if (run % 4 != 0) {
                tell(x, numbers(TOWN), TOWN.length());
            }
            for (int k = 0; k < 440; k++) {
                Method m = calls[dice.nextInt(calls.length)];
                if (!Modifier.isPublic(m.getModifiers()) || run % 2 == 1 && m.getName().equals("town")) {
                    continue;
                }
                Object[] with = new Object[m.getParameterCount()];
                for (int p = 0; p < with.length; p++) {
                    with[p] = m.getParameterTypes()[p] == boolean.class ? (Object) dice.nextBoolean()
                            : (Object) (dice.nextInt(4) == 0 ? dice.nextInt() : edges[dice.nextInt(edges.length)]);
                }
                m.invoke(x, with);
            }
        }
    }

    /** Rows are made with the object, so that calls make nothing. */
    private static void whatCallsMake() {
        com.sun.management.ThreadMXBean bean =
                (com.sun.management.ThreadMXBean) java.lang.management.ManagementFactory.getThreadMXBean();
        if (!bean.isThreadAllocatedMemorySupported()) {
            return;
        }
        ThreeSundays x = new ThreeSundays();
        int[] town = numbers(TOWN);
        int sum = everyCall(x, town);
        long before = bean.getCurrentThreadAllocatedBytes();
        for (int k = 0; k < 5; k++) {
            sum += everyCall(x, town);
        }
        long made = bean.getCurrentThreadAllocatedBytes() - before;
        must(made < 2000, "calls make nothing, but made bytes: " + made + " (" + sum + ")");
    }

    private static int everyCall(ThreeSundays x, int[] town) {
        tell(x, town, TOWN.length());
        int sum = x.fault(0);
        for (int k = 0; k < 3; k++) {
            sum += x.person(k, 8) + x.pair(k, 7) + x.degree(k, 0) + x.ancestors(k) + x.hearing(k) + x.church(k, 1);
            sum += x.sit(k, 1) + x.move(k, 0, 1) + (x.licence(k) ? 1 : 0) + x.sunday() + x.quiet(k, 0, 1, 0);
            sum += x.quietest(k, 0) + x.hush(k, 1) + x.will(k, 60, 0) + x.settles(k) + x.season(k) + x.law(k) + x.free();
            sum += x.sits(k, true) + x.knew(k, false) + x.kin(k, 2, true) + (x.untell(k) ? 1 : 0) + x.later(k);
            sum += x.meant(k) + x.ask(0, k) + x.image(k) + x.about(k) + (x.undo() ? 1 : 0) + (x.redo() ? 1 : 0) + x.back(k);
        }
        return sum;
    }
}
