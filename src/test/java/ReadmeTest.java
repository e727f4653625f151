import java.lang.reflect.Method;
import java.nio.charset.StandardCharsets;
import java.nio.file.Files;
import java.nio.file.Path;
import java.util.regex.Matcher;
import java.util.regex.Pattern;

/** Makes the calls that README.md shows, in their order, and compares the answers that stand behind them. */
public final class ReadmeTest {
    private static final Pattern CALL = Pattern.compile("x\\.(\\w+)\\(([^)]*)\\);\\s*// (-?\\d+|true|false)\\b.*");
    private static final Pattern TELL = Pattern.compile("tell\\(x, \"([^\"]*)\"\\);(?:\\s*// (-?\\d+)\\b.*)?");
    private static final String NEW = "ThreeSundays x = new ThreeSundays();";
    private static int wrong = 0;
    private static int calls = 0;

    public static void main(String[] args) throws Exception {
        String readme = Files.readString(Path.of("README.md"));
        ThreeSundays x = new ThreeSundays();
        int from = readme.indexOf("```java\n");
        int to = readme.indexOf("```", from + 3);
        if (from < 0 || to < 0) {
            complain("README.md shows no calls");
        } else {
            for (String line : readme.substring(from + 8, to).split("\n")) {
                if (!line.equals(NEW)) {
                    make(x, line);
                }
            }
        }
        mentions(readme);
        System.out.println(calls + " calls, " + (wrong == 0 ? "all answered as README.md says" : wrong + " complaints"));
        if (wrong != 0 || calls == 0) {
            System.exit(1);
        }
    }

    private static void complain(String what) {
        wrong++;
        System.out.println(what);
    }

    private static void make(ThreeSundays x, String line) throws Exception {
        Matcher told = TELL.matcher(line);
        Matcher called = CALL.matcher(line);
        calls++;
        if (told.matches()) {
            compare(line, String.valueOf(tell(x, told.group(1))), told.group(2));
        } else if (called.matches()) {
            compare(line, call(x, called.group(1), called.group(2)), called.group(3));
        } else {
            complain("this line is no call with an answer: " + line);
        }
    }

    private static void compare(String line, String got, String want) {
        if (want != null && !got.equals(want)) {
            complain(line + " answered " + got);
        }
    }

    private static int tell(ThreeSundays x, String text) {
        byte[] bytes = text.getBytes(StandardCharsets.ISO_8859_1);
        x.end(0);
        for (int at = 0; at < bytes.length; at += 20) {
            int[] n = new int[5];
            for (int k = 0; k < 20 && at + k < bytes.length; k++) {
                n[k / 4] |= (bytes[at + k] & 255) << 24 - k % 4 * 8;
            }
            x.feed(n[0], n[1], n[2], n[3], n[4]);
        }
        x.end(bytes.length);
        return x.town();
    }

    private static String call(ThreeSundays x, String name, String list) throws Exception {
        String[] words = list.isEmpty() ? new String[0] : list.split(", ");
        for (Method m : ThreeSundays.class.getMethods()) {
            if (m.getName().equals(name) && m.getParameterCount() == words.length) {
                Object[] with = new Object[words.length];
                for (int k = 0; k < words.length; k++) {
                    with[k] = m.getParameterTypes()[k] == boolean.class
                            ? (Object) Boolean.valueOf(words[k]) : (Object) Integer.valueOf(words[k]);
                }
                return String.valueOf(m.invoke(x, with));
            }
        }
        return "nothing, as there is no such call";
    }

    /** Each call of the class has its place in the readme. */
    private static void mentions(String readme) {
        for (Method m : ThreeSundays.class.getDeclaredMethods()) {
            if (java.lang.reflect.Modifier.isPublic(m.getModifiers()) && !readme.contains("`" + m.getName() + "`")) {
                complain("README.md says nothing of " + m.getName());
            }
        }
    }
}
