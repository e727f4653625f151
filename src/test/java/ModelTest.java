import java.util.ArrayDeque;
import java.util.ArrayList;
import java.util.Deque;
import java.util.HashMap;
import java.util.HashSet;
import java.util.List;
import java.util.Map;
import java.util.Random;
import java.util.Set;
import java.util.TreeSet;
import java.util.regex.Matcher;
import java.util.regex.Pattern;

/**
 * Random runs of calls, each answered by the class and by a slow model that is written apart from it
 * (regular expressions, trees, lists, plain search), and compared call by call.
 */
public final class ModelTest {
    private static final int RUNS = 1500;
    private static final int MOST_CALLS = 512;
    private static int wrong = 0;

    public static void main(String[] args) {
        int runs = args.length > 0 ? Integer.parseInt(args[0]) : RUNS;
        long seed = args.length > 1 ? Long.parseLong(args[1]) : 1;
        int sound = 0;
        int faulty = 0;
        int[] kinds = new int[6];
        for (int run = 0; run < runs && wrong < 20; run++) {
            Run it = new Run(new Random(seed * 1_000_003 + run), run);
            it.play();
            sound += it.sound;
            faulty += it.faulty;
            for (int k = 0; k < kinds.length; k++) {
                kinds[k] += it.kinds[k];
            }
        }
        System.out.println(runs + " runs, " + sound + " sound towns, " + faulty + " faulty ones (by kind "
                + java.util.Arrays.toString(kinds) + ")");
        if (sound == 0 || faulty == 0) {
            wrong++;
        }
        System.out.println(wrong == 0 ? "the model agrees" : "the model does not agree");
        if (wrong != 0) {
            System.exit(1);
        }
    }

    // ------------------------------------------------------------------ one run of calls

    private static final class Run {
        final Random dice;
        final int number;
        final ThreeSundays real = new ThreeSundays();
        final Model model = new Model();
        final Deque<String> log = new ArrayDeque<>();
        int calls = 0;
        int sound = 0;
        int faulty = 0;
        boolean broken = false;
        final int[] kinds = new int[6];

        Run(Random dice, int number) {
            this.dice = dice;
            this.number = number;
        }

        void check(String call, long got, long want) {
            calls++;
            log.addLast(call + " = " + want);
            if (got != want && !broken) {
                broken = true;
                wrong++;
                System.out.println("run " + number + ", call " + calls + ": " + call + " answered " + got + ", model says " + want);
                for (String line : log) {
                    System.out.println("    " + line);
                }
            }
        }

        void play() {
            if (dice.nextInt(4) == 0) {
                someCalls(dice.nextInt(6));
            }
            int towns = 1 + dice.nextInt(3);
            for (int k = 0; k < towns && calls < MOST_CALLS - 100; k++) {
                tell(new Teller(dice).text());
                someCalls(20 + dice.nextInt(100));
            }
            someCalls(MOST_CALLS - calls);
        }

        void tell(String text) {
            byte[] bytes = text.getBytes(java.nio.charset.StandardCharsets.ISO_8859_1);
            if (bytes.length > 1600) {
                return;
            }
            check("end(0)", real.end(0), model.end(0));
            for (int at = 0; at < bytes.length; at += 20) {
                int[] n = new int[5];
                for (int k = 0; k < 20; k++) {
                    int b = at + k < bytes.length ? bytes[at + k] & 255 : dice.nextInt(256);
                    n[k / 4] |= b << 24 - k % 4 * 8;
                }
                check("feed", real.feed(n[0], n[1], n[2], n[3], n[4]), model.feed(n));
            }
            check("end(" + bytes.length + ")", real.end(bytes.length), model.end(bytes.length));
            int due = model.town();
            check("town() of <" + text + ">", real.town(), due);
            check("fault(0)", real.fault(0), model.fault(0));
            check("fault(1)", real.fault(1), model.fault(1));
            kinds[model.fault(0)]++;
            if (due == -1) {
                faulty++;
            } else {
                sound++;
            }
        }

        int any(int below) {
            int r = dice.nextInt(60);
            if (r == 0) {
                return -1;
            }
            if (r == 1) {
                return below;
            }
            if (r == 2) {
                return new int[] {Integer.MIN_VALUE, Integer.MAX_VALUE, -2, 32, 64, 31, 1 << 20}[dice.nextInt(7)];
            }
            return below > 0 ? dice.nextInt(below) : 0;
        }

        int person() {
            return any(model.now.persons.size());
        }

        int pair() {
            return any(model.now.pairs.size());
        }

        int church() {
            return any(model.now.churches.size());
        }

        int time() {
            int r = dice.nextInt(12);
            return r == 0 ? Integer.MAX_VALUE : r == 1 ? -1 : r == 2 ? Integer.MIN_VALUE
                    : dice.nextInt(model.time + 3);
        }

        void someCalls(int count) {
            for (int k = 0; k < count && calls < MOST_CALLS; k++) {
                int kind = dice.nextInt(100);
                if (kind < 30) {
                    act();
                } else if (kind < 50) {
                    look();
                } else if (kind < 75) {
                    weigh();
                } else {
                    recall();
                }
            }
        }

        void act() {
            int a;
            int b;
            int c;
            switch (dice.nextInt(10)) {
                case 0: case 1:
                    a = person();
                    b = church();
                    check("sit(" + a + ", " + b + ")", real.sit(a, b), model.sit(a, b));
                    break;
                case 2:
                    a = pair();
                    b = church();
                    c = church();
                    check("move(" + a + ", " + b + ", " + c + ")", real.move(a, b, c), model.move(a, b, c));
                    break;
                case 3:
                    if (dice.nextInt(3) == 0) {
                        a = pair();
                        check("licence(" + a + ")", real.licence(a) ? 1 : 0, model.licence(a) ? 1 : 0);
                    }
                    break;
                case 4: case 5:
                    check("sunday()", real.sunday(), model.sunday());
                    break;
                case 6: case 7:
                    check("undo()", real.undo() ? 1 : 0, model.undo() ? 1 : 0);
                    break;
                case 8:
                    check("redo()", real.redo() ? 1 : 0, model.redo() ? 1 : 0);
                    break;
                default:
                    a = any(3);
                    if (dice.nextInt(3) == 0) {
                        check("back(" + a + ")", real.back(a), model.back(a));
                    } else {
                        check("image(" + a + ")", real.image(a), model.image(a));
                    }
                    break;
            }
        }

        void look() {
            int a;
            int b;
            switch (dice.nextInt(8)) {
                case 0: case 1:
                    a = person();
                    b = any(10);
                    check("person(" + a + ", " + b + ")", real.person(a, b), model.person(a, b));
                    break;
                case 2: case 3:
                    a = pair();
                    b = any(9);
                    check("pair(" + a + ", " + b + ")", real.pair(a, b), model.pair(a, b));
                    break;
                case 4:
                    a = person();
                    b = person();
                    check("degree(" + a + ", " + b + ")", real.degree(a, b), model.degree(a, b));
                    break;
                case 5:
                    a = person();
                    check("ancestors(" + a + ")", real.ancestors(a), model.ancestors(a));
                    break;
                case 6:
                    a = church();
                    b = any(2);
                    check("church(" + a + ", " + b + ")", real.church(a, b), model.church(a, b));
                    break;
                default:
                    a = any(13);
                    check("about(" + a + ")", real.about(a), model.about(a));
                    break;
            }
        }

        void weigh() {
            int a;
            int b;
            int c;
            int d;
            switch (dice.nextInt(11)) {
                case 0:
                    a = pair();
                    b = church();
                    c = church();
                    d = any(2);
                    check("quiet(" + a + ", " + b + ", " + c + ", " + d + ")", real.quiet(a, b, c, d), model.quiet(a, b, c, d));
                    break;
                case 1:
                    a = pair();
                    b = any(2);
                    check("quietest(" + a + ", " + b + ")", real.quietest(a, b), model.quietest(a, b));
                    break;
                case 2:
                    a = pair();
                    b = any(2);
                    check("hush(" + a + ", " + b + ")", real.hush(a, b), model.hush(a, b));
                    break;
                case 3:
                    a = pair();
                    b = dice.nextInt(4) == 0 ? any(61) : any(8);
                    c = any(2);
                    check("will(" + a + ", " + b + ", " + c + ")", real.will(a, b, c), model.will(a, b, c));
                    break;
                case 4:
                    a = pair();
                    check("settles(" + a + ")", real.settles(a), model.settles(a));
                    break;
                case 5: case 10:
                    a = any(2);
                    check("season(" + a + ")", real.season(a), model.season(a));
                    break;
                case 6:
                    a = any(9);
                    check("law(" + a + ")", real.law(a), model.law(a));
                    break;
                case 7:
                    check("free()", real.free(), model.free());
                    break;
                default:
                    a = person();
                    check("hearing(" + a + ")", real.hearing(a), model.hearing(a));
                    break;
            }
        }

        void recall() {
            int a;
            int b;
            boolean is = dice.nextInt(3) > 0;
            switch (dice.nextInt(9)) {
                case 0:
                    a = church();
                    check("sits(" + a + ", " + is + ")", real.sits(a, is), model.sits(a, is));
                    break;
                case 1:
                    a = person();
                    check("knew(" + a + ", " + is + ")", real.knew(a, is), model.knew(a, is));
                    break;
                case 2:
                    a = person();
                    b = any(9);
                    check("kin(" + a + ", " + b + ", " + is + ")", real.kin(a, b, is), model.kin(a, b, is));
                    break;
                case 3: case 4:
                    a = any(model.said.size());
                    check("untell(" + a + ")", real.untell(a) ? 1 : 0, model.untell(a) ? 1 : 0);
                    break;
                case 5:
                    a = dice.nextInt(4) == 0 ? any(1001) : any(3);
                    check("later(" + a + ")", real.later(a), model.later(a));
                    break;
                case 6: case 7:
                    a = time();
                    check("meant(" + a + ")", real.meant(a), model.meant(a));
                    break;
                default:
                    a = any(2);
                    b = time();
                    check("ask(" + a + ", " + b + ")", real.ask(a, b), model.ask(a, b));
                    break;
            }
        }
    }

    // ------------------------------------------------------------------ texts

    private static final class Teller {
        final Random dice;
        final StringBuilder out = new StringBuilder();
        final List<String> churches = new ArrayList<>();
        final List<String> persons = new ArrayList<>();

        Teller(Random dice) {
            this.dice = dice;
        }

        String text() {
            if (dice.nextInt(40) == 0) {
                return dice.nextBoolean() ? "" : " \n ";
            }
            List<String> settings = new ArrayList<>();
            if (dice.nextInt(4) > 0) {
                settings.add("hears " + e(0, 2 + dice.nextInt(4)));
            }
            if (dice.nextInt(3) > 0) {
                settings.add("degree " + dice.nextInt(9));
            }
            // Few calls and early sailings, so that not all can be read in time.
            boolean tight = dice.nextInt(3) == 0;
            if (tight || dice.nextInt(2) > 0) {
                settings.add("calls " + (tight ? 1 : 1 + dice.nextInt(dice.nextInt(3) == 0 ? 5 : 2)));
            }
            if (dice.nextInt(3) > 0) {
                settings.add("draw " + dice.nextInt(1000));
            }
            int churchCount = 1 + dice.nextInt(tight ? 3 : 4);
            for (int k = 0; k < churchCount; k++) {
                churches.add(name(churches));
                line("church " + churches.get(k));
                maybeSetting(settings);
            }
            int personCount = dice.nextInt(12) == 0 ? dice.nextInt(3) : 3 + dice.nextInt(6);
            int sailors = dice.nextInt(tight ? 9 : 6);
            for (int k = 0; k < personCount; k++) {
                String name = name(persons);
                String line = "person " + name + " in " + pick(churches);
                if (!persons.isEmpty() && dice.nextInt(5) < 3) {
                    String parent = pick(persons);
                    line += " of " + parent;
                    String second = pick(persons);
                    if (!second.equals(parent) && dice.nextBoolean()) {
                        line += " and " + second;
                    }
                }
                if (dice.nextInt(8) == 0) {
                    line += " vow";
                }
                if (dice.nextInt(6) < sailors && dice.nextInt(2) == 0) {
                    line += " sails " + (tight ? 3 + dice.nextInt(10) : 1 + dice.nextInt(12));
                }
                persons.add(name);
                line(line);
                maybeSetting(settings);
            }
            if (persons.size() > 1) {
                twos("knows ", dice.nextInt(13), true);
                twos("spites ", dice.nextInt(dice.nextInt(3) == 0 ? 9 : 3), true);
                twos("pair ", tight ? 7 : dice.nextInt(8) == 0 ? dice.nextInt(6) : 2 + dice.nextInt(4), false);
            }
            while (!settings.isEmpty()) {
                line(settings.remove(0));
            }
            return dice.nextInt(3) == 0 ? spoiled(out.toString()) : out.toString();
        }

        void maybeSetting(List<String> settings) {
            if (!settings.isEmpty() && dice.nextInt(10) == 0) {
                line(settings.remove(dice.nextInt(settings.size())));
            }
        }

        void line(String line) {
            out.append(line).append(dice.nextInt(5) == 0 ? " ;" : ";");
            if (dice.nextInt(4) == 0) {
                out.append(dice.nextBoolean() ? "\n" : "  ");
            }
        }

        void twos(String word, int count, boolean ordered) {
            Set<String> seen = new HashSet<>();
            for (int k = 0; k < count; k++) {
                String one = pick(persons);
                String other = pick(persons);
                if (one.equals(other) || !ordered && seen.size() >= 10 || !seen.add(one + " " + other)) {
                    continue;
                }
                if (!ordered) {
                    seen.add(other + " " + one);
                }
                String at = !ordered && dice.nextInt(3) == 0 ? " at " + pick(churches) + " " + pick(churches) : "";
                line(word + one + " " + other + at);
            }
        }

        String pick(List<String> from) {
            return from.get(dice.nextInt(from.size()));
        }

        String name(List<String> taken) {
            for (;;) {
                StringBuilder name = new StringBuilder();
                int length = dice.nextInt(20) == 0 ? 8 : 1 + dice.nextInt(3);
                for (int k = 0; k < length; k++) {
                    name.append((char) ('a' + dice.nextInt(dice.nextInt(5) == 0 ? 26 : 4)));
                }
                if (!taken.contains(name.toString()) && !Model.WORDS.contains(name.toString())) {
                    return name.toString();
                }
            }
        }

        String e(int depth, int size) {
            int r = size <= 0 ? 0 : dice.nextInt(14);
            switch (r) {
                case 0: case 1: return leaf();
                case 2: return "(" + e(depth + 1, size - 1) + ")" + sign("*/%") + unit(depth, size - 1);
                case 3: return "not " + (dice.nextBoolean() ? "(" + e(depth, size - 1) + ")" : leaf());
                case 4: return unit(depth, size - 1) + " or " + e(depth, size - 1);
                case 5: return unit(depth, size - 1) + " and " + unit(depth, size - 1);
                case 6: return unit(depth, size - 2) + sign("<>=") + unit(depth, size - 2);
                case 7: return "not not " + leaf();
                default: return unit(depth, size - 1) + sign("+-*/%+") + unit(depth, size - 1);
            }
        }

        String unit(int depth, int size) {
            return size > 0 && depth < 6 && dice.nextInt(3) == 0 ? "(" + e(depth + 1, size - 1) + ")" : leaf();
        }

        String sign(String signs) {
            String sign = String.valueOf(signs.charAt(dice.nextInt(signs.length())));
            return dice.nextBoolean() ? " " + sign + " " : sign;
        }

        String leaf() {
            switch (dice.nextInt(8)) {
                case 0: return "sunday";
                case 1: return "read";
                case 2: return "seated";
                case 3: return "own";
                case 4: return String.valueOf(dice.nextInt(10000));
                default: return String.valueOf(dice.nextInt(12));
            }
        }

        String spoiled(String text) {
            StringBuilder b = new StringBuilder(text);
            int times = 1 + dice.nextInt(2);
            for (int k = 0; k < times && b.length() > 0; k++) {
                int at = dice.nextInt(b.length());
                switch (dice.nextInt(12)) {
                    case 0: b.deleteCharAt(at); break;
                    case 1: b.insert(at, (char) dice.nextInt(256)); break;
                    case 2: b.setCharAt(at, ";()<>=+-*/% \nabz019$A".charAt(dice.nextInt(21))); break;
                    case 3: b.setLength(at); break;
                    case 4: b.insert(at, " " + Model.KEYWORDS[dice.nextInt(Model.KEYWORDS.length)] + " "); break;
                    case 5: b.insert(at, " " + dice.nextInt(20000) + " "); break;
                    case 6: b.append("church q;church r;church s;church t;"); break;
                    case 7: swapLines(b); break;
                    case 8: b.append(lineOf("degree " + dice.nextInt(12), "calls " + dice.nextInt(8), "draw " + dice.nextInt(2000))); break;
                    case 9: b.append(twoOf("knows ")).append(twoOf("pair ")).append(twoOf("spites ")); break;
                    case 10: b.append(lineOf("hears " + "(".repeat(5 + dice.nextInt(5)) + e(0, 3), "hears " + "not ".repeat(5 + dice.nextInt(5)) + e(0, 3),
                            "hears " + e(0, 6) + "+1".repeat(dice.nextInt(30)))); break;
                    default: swapTokens(b); break;
                }
            }
            return b.toString();
        }

        String lineOf(String... lines) {
            return lines[dice.nextInt(lines.length)] + ";";
        }

        String twoOf(String word) {
            List<String> from = persons.isEmpty() ? churches : persons;
            return word + pick(from) + " " + pick(from) + ";";
        }

        void swapLines(StringBuilder b) {
            String[] lines = b.toString().split("(?<=;)");
            int i = dice.nextInt(lines.length);
            int j = dice.nextInt(lines.length);
            String kept = lines[i];
            lines[i] = lines[j];
            if (dice.nextInt(3) > 0) {
                lines[j] = kept;
            }
            b.setLength(0);
            b.append(String.join("", lines));
        }

        void swapTokens(StringBuilder b) {
            String[] tokens = b.toString().split("\\b");
            int i = dice.nextInt(tokens.length);
            int j = dice.nextInt(tokens.length);
            tokens[i] = tokens[j];
            b.setLength(0);
            b.append(String.join("", tokens));
        }
    }

    // ------------------------------------------------------------------ the model

    private static final class Fault extends Exception {
        private static final long serialVersionUID = 1L;
        final int kind;
        final int place;

        Fault(int kind, int place) {
            this.kind = kind;
            this.place = place;
        }
    }

    private interface Tree {
        int value(Map<String, Integer> names);
    }

    private record Two(int one, int other) {
    }

    private static final class Human {
        String name;
        int home;
        final List<Integer> parents = new ArrayList<>();
        boolean vow;
        int sails;
    }

    private static final class Couple {
        int one;
        int other;
        int churchOne;
        int churchOther;
    }

    private static final class Place {
        final List<String> churches = new ArrayList<>();
        final List<Human> persons = new ArrayList<>();
        final List<Two> knows = new ArrayList<>();
        final List<Two> spites = new ArrayList<>();
        final List<Couple> pairs = new ArrayList<>();
        Tree hears;
        int degree = 4;
        int calls = 2;
        int draw = 0;
        int units = 0;

        int find(String name) {
            for (int k = 0; k < persons.size(); k++) {
                if (persons.get(k).name.equals(name)) {
                    return k;
                }
            }
            return -1;
        }
    }

    private record Token(String text, int place) {
        boolean isName() {
            return text.matches("[a-z]+") && !Model.WORDS.contains(text);
        }

        boolean isNumber() {
            return text.matches("[0-9]+");
        }
    }

    private static final class Reader {
        static final Pattern TOKEN = Pattern.compile("[a-z]{1,8}(?![a-z])|[0-9]{1,4}(?![0-9a-z])|[;()<>=+*/%-]");
        final String text;
        final Place place = new Place();
        final Set<String> once = new HashSet<>();
        int at = 0;
        Token now;

        Reader(String text) throws Fault {
            this.text = text;
            next();
        }

        // A token that is none is a fault where it is met, as nothing earlier can be wrong then.
        void next() throws Fault {
            while (at < text.length() && (text.charAt(at) == ' ' || text.charAt(at) == '\n')) {
                at++;
            }
            if (at == text.length()) {
                now = new Token("", at);
                return;
            }
            Matcher m = TOKEN.matcher(text);
            m.region(at, text.length());
            m.useTransparentBounds(true);
            if (!m.lookingAt()) {
                now = new Token("?", at);
                throw new Fault(1, at);
            }
            now = new Token(m.group(), at);
            at = m.end();
        }

        Fault fault(int kind) {
            return new Fault(kind, now.place());
        }

        boolean is(String word) {
            return now.text().equals(word);
        }

        void need(String word) throws Fault {
            if (!is(word)) {
                throw fault(2);
            }
            next();
        }

        void limit(boolean tooMany) throws Fault {
            if (tooMany) {
                throw fault(2);
            }
        }

        Place read() throws Fault {
            while (!is("")) {
                String first = now.text();
                switch (first) {
                    case "church" -> church();
                    case "person" -> person();
                    case "knows" -> two(place.knows, 12);
                    case "spites" -> two(place.spites, 8);
                    case "pair" -> pair();
                    case "hears", "degree", "calls", "draw" -> setting(first);
                    default -> throw fault(2);
                }
                need(";");
            }
            return place;
        }

        void church() throws Fault {
            limit(place.churches.size() == 4);
            next();
            if (!now.isName()) {
                throw fault(2);
            }
            if (place.churches.contains(now.text())) {
                throw fault(3);
            }
            place.churches.add(now.text());
            next();
        }

        int churchName() throws Fault {
            if (!now.isName()) {
                throw fault(2);
            }
            int found = place.churches.indexOf(now.text());
            if (found < 0) {
                throw fault(5);
            }
            next();
            return found;
        }

        int personName(int... not) throws Fault {
            if (!now.isName()) {
                throw fault(2);
            }
            int found = place.find(now.text());
            if (found < 0) {
                throw fault(5);
            }
            for (int n : not) {
                if (found == n) {
                    throw fault(3);
                }
            }
            next();
            return found;
        }

        int number(int low, int high) throws Fault {
            if (!now.isNumber()) {
                throw fault(2);
            }
            int n = Integer.parseInt(now.text());
            if (n < low || n > high) {
                throw fault(4);
            }
            next();
            return n;
        }

        void person() throws Fault {
            limit(place.persons.size() == 8);
            next();
            if (!now.isName()) {
                throw fault(2);
            }
            if (place.find(now.text()) >= 0) {
                throw fault(3);
            }
            Human human = new Human();
            human.name = now.text();
            next();
            need("in");
            human.home = churchName();
            if (is("of")) {
                next();
                human.parents.add(personName());
                if (is("and")) {
                    next();
                    human.parents.add(personName(human.parents.get(0)));
                }
            }
            if (is("vow")) {
                next();
                human.vow = true;
            }
            if (is("sails")) {
                next();
                human.sails = number(1, 12);
            }
            place.persons.add(human);
        }

        void two(List<Two> twos, int most) throws Fault {
            limit(twos.size() == most);
            next();
            int one = personName();
            List<Integer> not = new ArrayList<>(List.of(one));
            for (Two t : twos) {
                if (t.one() == one) {
                    not.add(t.other());
                }
            }
            twos.add(new Two(one, personName(not.stream().mapToInt(x -> x).toArray())));
        }

        void pair() throws Fault {
            limit(place.pairs.size() == 5);
            next();
            Couple couple = new Couple();
            couple.one = personName();
            List<Integer> not = new ArrayList<>(List.of(couple.one));
            for (Couple c : place.pairs) {
                if (c.one == couple.one) {
                    not.add(c.other);
                }
                if (c.other == couple.one) {
                    not.add(c.one);
                }
            }
            couple.other = personName(not.stream().mapToInt(x -> x).toArray());
            couple.churchOne = place.persons.get(couple.one).home;
            couple.churchOther = place.persons.get(couple.other).home;
            if (is("at")) {
                next();
                couple.churchOne = churchName();
                couple.churchOther = churchName();
            }
            place.pairs.add(couple);
        }

        void setting(String which) throws Fault {
            limit(!once.add(which));
            next();
            switch (which) {
                case "degree" -> place.degree = number(0, 8);
                case "calls" -> place.calls = number(1, 5);
                case "draw" -> place.draw = number(0, 999);
                default -> place.hears = e(0);
            }
        }

        Tree e(int within) throws Fault {
            List<Tree> parts = new ArrayList<>(List.of(both(within)));
            while (is("or")) {
                next();
                parts.add(both(within));
            }
            return parts.size() == 1 ? parts.get(0)
                    : n -> parts.stream().anyMatch(p -> p.value(n) != 0) ? 1 : 0;
        }

        Tree both(int within) throws Fault {
            List<Tree> parts = new ArrayList<>(List.of(one(within)));
            while (is("and")) {
                next();
                parts.add(one(within));
            }
            return parts.size() == 1 ? parts.get(0)
                    : n -> parts.stream().allMatch(p -> p.value(n) != 0) ? 1 : 0;
        }

        Tree one(int within) throws Fault {
            if (is("not")) {
                limit(within > 6);
                next();
                Tree part = one(within + 1);
                return n -> part.value(n) == 0 ? 1 : 0;
            }
            Tree left = sum(within);
            String sign = now.text();
            if (!sign.matches("[<>=]")) {
                return left;
            }
            next();
            Tree right = sum(within);
            return n -> {
                int order = Integer.compare(left.value(n), right.value(n));
                return order == (sign.equals("<") ? -1 : sign.equals(">") ? 1 : 0) ? 1 : 0;
            };
        }

        Tree sum(int within) throws Fault {
            Tree tree = term(within);
            while (now.text().matches("[+-]")) {
                boolean plus = is("+");
                next();
                Tree left = tree;
                Tree right = term(within);
                tree = n -> (int) ((long) left.value(n) + (plus ? 1L : -1L) * right.value(n));
            }
            return tree;
        }

        Tree term(int within) throws Fault {
            Tree tree = unit(within);
            while (now.text().matches("[*/%]")) {
                String sign = now.text();
                next();
                Tree left = tree;
                Tree right = unit(within);
                tree = n -> {
                    long a = left.value(n);
                    long b = right.value(n);
                    return (int) (sign.equals("*") ? a * b : b == 0 ? 0 : sign.equals("/") ? a / b : a % b);
                };
            }
            return tree;
        }

        Tree unit(int within) throws Fault {
            boolean name = now.text().matches("sunday|read|seated|own");
            if (!name && !now.isNumber() && !is("(")) {
                throw fault(2);
            }
            place.units++;
            limit(place.units > 30);
            String text = now.text();
            if (is("(")) {
                limit(within > 6);
                next();
                Tree inner = e(within + 1);
                need(")");
                return inner;
            }
            next();
            return name ? n -> n.get(text) : n -> Integer.parseInt(text);
        }
    }

    private static final class Situation {
        int[] seats;
        int[] status;
        int[][] churches;
        int[] read;
        int sundays;
        int seed;

        Situation copy() {
            Situation c = new Situation();
            c.seats = seats.clone();
            c.status = status.clone();
            c.churches = new int[churches.length][];
            for (int k = 0; k < churches.length; k++) {
                c.churches[k] = churches[k].clone();
            }
            c.read = read.clone();
            c.sundays = sundays;
            c.seed = seed;
            return c;
        }
    }

    private record Saying(String sort, int subject, int degree, boolean is, int told) {
    }

    private static final class Model {
        static final String[] KEYWORDS = {"church", "person", "in", "of", "and", "vow", "sails", "knows", "spites",
            "pair", "at", "hears", "degree", "calls", "draw", "or", "not", "sunday", "read", "seated", "own"};
        static final Set<String> WORDS = Set.of(KEYWORDS);

        StringBuilder tape = new StringBuilder();
        Place now = new Place();
        Situation sit;
        int faultKind = 0;
        int faultPlace = -1;
        final List<Situation> past = new ArrayList<>();
        final List<Situation> future = new ArrayList<>();
        final Map<Integer, Situation> boxes = new HashMap<>();
        final List<Saying> said = new ArrayList<>();
        final Map<Integer, Integer> untold = new HashMap<>();
        int time = 0;

        Model() {
            begin();
        }

        void begin() {
            sit = new Situation();
            sit.seats = now.persons.stream().mapToInt(p -> p.home).toArray();
            int n = now.pairs.size();
            sit.status = new int[n];
            sit.read = new int[n];
            sit.churches = new int[n][];
            for (int k = 0; k < n; k++) {
                sit.churches[k] = new int[] {now.pairs.get(k).churchOne, now.pairs.get(k).churchOther};
            }
            sit.seed = now.draw;
            past.clear();
            future.clear();
            boxes.clear();
            said.clear();
            untold.clear();
        }

        int feed(int[] n) {
            if (tape.length() > 1580) {
                return -1;
            }
            for (int x : n) {
                for (int k = 3; k >= 0; k--) {
                    tape.append((char) (x >>> 8 * k & 255));
                }
            }
            return tape.length();
        }

        int end(int n) {
            if (n < 0 || n > tape.length()) {
                return -1;
            }
            tape.setLength(n);
            return n;
        }

        int town() {
            String text = tape.toString();
            tape.setLength(0);
            try {
                now = new Reader(text).read();
            } catch (Fault f) {
                faultKind = f.kind;
                faultPlace = f.place;
                return -1;
            }
            faultKind = 0;
            faultPlace = -1;
            begin();
            return now.persons.size();
        }

        int fault(int what) {
            return what == 0 ? faultKind : what == 1 ? faultPlace : -1;
        }

        boolean noPerson(int p) {
            return p < 0 || p >= now.persons.size();
        }

        boolean noPair(int p) {
            return p < 0 || p >= now.pairs.size();
        }

        boolean noChurch(int c) {
            return c < 0 || c >= now.churches.size();
        }

        boolean away(int p, int sunday) {
            int s = now.persons.get(p).sails;
            return s != 0 && s <= sunday;
        }

        Set<Integer> knows(int p) {
            Set<Integer> all = new TreeSet<>(now.persons.get(p).parents);
            for (int q = 0; q < now.persons.size(); q++) {
                if (now.persons.get(q).parents.contains(p)) {
                    all.add(q);
                }
            }
            for (Two t : now.knows) {
                if (t.one() == p) {
                    all.add(t.other());
                }
            }
            return all;
        }

        Set<Integer> spites(int p) {
            Set<Integer> all = new TreeSet<>();
            for (Two t : now.spites) {
                if (t.one() == p) {
                    all.add(t.other());
                }
            }
            return all;
        }

        static int bits(Iterable<Integer> all) {
            int b = 0;
            for (int x : all) {
                b |= 1 << x;
            }
            return b;
        }

        int person(int p, int what) {
            if (noPerson(p)) {
                return -2;
            }
            Human h = now.persons.get(p);
            switch (what) {
                case 0: return sit.seats[p];
                case 1: return h.home;
                case 2: return h.parents.size() > 0 ? h.parents.get(0) : -1;
                case 3: return h.parents.size() > 1 ? h.parents.get(1) : -1;
                case 4: return h.vow ? 1 : 0;
                case 5: return h.sails;
                case 6: return away(p, sit.sundays + 1) ? 1 : 0;
                case 7:
                    for (int k = 0; k < now.pairs.size(); k++) {
                        Couple c = now.pairs.get(k);
                        if (sit.status[k] == 1 && (c.one == p || c.other == p)) {
                            return c.one + c.other - p;
                        }
                    }
                    return -1;
                case 8: return bits(knows(p));
                case 9: return bits(spites(p));
                default: return -2;
            }
        }

        int pair(int k, int what) {
            if (noPair(k)) {
                return -1;
            }
            Couple c = now.pairs.get(k);
            switch (what) {
                case 0: return c.one;
                case 1: return c.other;
                case 2: return sit.churches[k][0];
                case 3: return sit.churches[k][1];
                case 4: return sit.read[k];
                case 5: return sit.status[k];
                case 6: return bar(sit, k);
                case 7: return bits(risers(sit, k));
                case 8: return called(sit).contains(k) ? 1 : 0;
                default: return -1;
            }
        }

        Map<Integer, Integer> up(int p) {
            Map<Integer, Integer> steps = new HashMap<>();
            steps.put(p, 0);
            for (int parent : now.persons.get(p).parents) {
                up(parent).forEach((a, n) -> steps.merge(a, n + 1, Math::min));
            }
            return steps;
        }

        int degree(int p, int q) {
            if (noPerson(p) || noPerson(q)) {
                return -1;
            }
            Map<Integer, Integer> a = up(p);
            Map<Integer, Integer> b = up(q);
            return a.keySet().stream().filter(b::containsKey).mapToInt(x -> a.get(x) + b.get(x)).min().orElse(-1);
        }

        int ancestors(int p) {
            return noPerson(p) ? -1 : bits(up(p).keySet());
        }

        int bar(Situation s, int k) {
            Couple c = now.pairs.get(k);
            return barOf(s, c.one, c.other, k);
        }

        int barOf(Situation s, int a, int b, int except) {
            int d = degree(a, b);
            if (d >= 0 && d <= now.degree) {
                return 1;
            }
            if (now.persons.get(a).vow || now.persons.get(b).vow) {
                return 2;
            }
            return wedBeside(s, a, except) || wedBeside(s, b, except) ? 3 : 0;
        }

        boolean wedBeside(Situation s, int p, int except) {
            for (int k = 0; k < now.pairs.size(); k++) {
                Couple c = now.pairs.get(k);
                if (k != except && s.status[k] == 1 && (c.one == p || c.other == p)) {
                    return true;
                }
            }
            return false;
        }

        Set<Integer> risers(Situation s, int k) {
            Couple c = now.pairs.get(k);
            boolean barred = bar(s, k) > 0;
            Set<Integer> all = new TreeSet<>();
            for (int p = 0; p < now.persons.size(); p++) {
                Set<Integer> of = new HashSet<>(spites(p));
                if (barred) {
                    of.addAll(knows(p));
                }
                if (p != c.one && p != c.other && (of.contains(c.one) || of.contains(c.other))) {
                    all.add(p);
                }
            }
            return all;
        }

        List<Integer> called(Situation s) {
            Map<Integer, Integer> had = new HashMap<>();
            List<Integer> all = new ArrayList<>();
            for (int k = 0; k < now.pairs.size(); k++) {
                Couple c = now.pairs.get(k);
                if (s.status[k] != 0 || away(c.one, s.sundays + 1) || away(c.other, s.sundays + 1)) {
                    continue;
                }
                Set<Integer> in = new HashSet<>(List.of(s.churches[k][0]));
                in.add(s.churches[k][1]);
                if (in.stream().allMatch(x -> had.getOrDefault(x, 0) < now.calls)) {
                    in.forEach(x -> had.merge(x, 1, Integer::sum));
                    all.add(k);
                }
            }
            return all;
        }

        int ear(Situation s, int p) {
            if (now.hears == null) {
                return 10;
            }
            int church = s.seats[p];
            Map<String, Integer> names = new HashMap<>();
            names.put("sunday", s.sundays + 1);
            names.put("read", (int) called(s).stream().filter(k -> s.churches[k][0] == church || s.churches[k][1] == church).count());
            int seated = 0;
            for (int q = 0; q < s.seats.length; q++) {
                seated += s.seats[q] == church && !away(q, s.sundays + 1) ? 1 : 0;
            }
            names.put("seated", seated);
            names.put("own", now.persons.get(p).home == church ? 1 : 0);
            int v = now.hears.value(names);
            return v < 0 ? 0 : v > 10 ? 10 : v;
        }

        int hearing(int p) {
            return noPerson(p) ? -1 : ear(sit, p);
        }

        int church(int c, int what) {
            if (noChurch(c) || what < 0 || what > 1) {
                return -1;
            }
            Set<Integer> all = new TreeSet<>();
            if (what == 0) {
                for (int p = 0; p < sit.seats.length; p++) {
                    if (sit.seats[p] == c) {
                        all.add(p);
                    }
                }
            } else {
                for (int k : called(sit)) {
                    if (sit.churches[k][0] == c || sit.churches[k][1] == c) {
                        all.add(k);
                    }
                }
            }
            return bits(all);
        }

        void act() {
            past.add(sit.copy());
            future.clear();
            if (past.size() > 40) {
                past.remove(0);
            }
        }

        int sit(int p, int c) {
            if (noPerson(p) || noChurch(c) || sit.seats[p] == c) {
                return -1;
            }
            act();
            int was = sit.seats[p];
            sit.seats[p] = c;
            return was;
        }

        boolean open(int k) {
            return !noPair(k) && sit.status[k] == 0;
        }

        int move(int k, int c, int d) {
            if (!open(k) || noChurch(c) || noChurch(d)) {
                return -1;
            }
            act();
            sit.churches[k] = new int[] {c, d};
            return sit.read[k];
        }

        boolean licence(int k) {
            if (!open(k) || bar(sit, k) > 0) {
                return false;
            }
            act();
            sit.status[k] = 1;
            return true;
        }

        int sunday() {
            act();
            Set<Integer> before = wed(sit);
            keep(sit);
            Set<Integer> after = wed(sit);
            after.removeAll(before);
            return bits(after);
        }

        Set<Integer> wed(Situation s) {
            Set<Integer> all = new TreeSet<>();
            for (int k = 0; k < s.status.length; k++) {
                if (s.status[k] == 1) {
                    all.add(k);
                }
            }
            return all;
        }

        List<Integer> listeners(Situation s, int k, int c, int d) {
            List<Integer> all = new ArrayList<>();
            for (int p : risers(s, k)) {
                if ((s.seats[p] == c || s.seats[p] == d) && !away(p, s.sundays + 1)) {
                    all.add(p);
                }
            }
            return all;
        }

        void keep(Situation s) {
            List<Integer> read = called(s);
            int[] ears = new int[s.seats.length];
            for (int p = 0; p < ears.length; p++) {
                ears[p] = ear(s, p);
            }
            for (int k : read) {
                boolean rose = false;
                for (int p : listeners(s, k, s.churches[k][0], s.churches[k][1])) {
                    s.seed = (s.seed * 137 + 71) % 1000;
                    if (s.seed % 10 < ears[p]) {
                        rose = true;
                        break;
                    }
                }
                Couple c = now.pairs.get(k);
                if (rose) {
                    s.status[k] = 2;
                } else if (++s.read[k] >= 3 && !wedBeside(s, c.one, k) && !wedBeside(s, c.other, k)) {
                    s.status[k] = 1;
                }
            }
            s.sundays++;
        }

        boolean undo() {
            if (past.isEmpty()) {
                return false;
            }
            future.add(sit);
            sit = past.remove(past.size() - 1);
            return true;
        }

        boolean redo() {
            if (future.isEmpty()) {
                return false;
            }
            past.add(sit);
            sit = future.remove(future.size() - 1);
            return true;
        }

        long[] odds(int k, int c, int d) {
            long up = 1;
            long low = 1;
            for (int p : listeners(sit, k, c, d)) {
                up *= 10 - ear(sit, p);
                low *= 10;
            }
            for (int f : new int[] {2, 5}) {
                while (up > 0 && up % f == 0 && low % f == 0) {
                    up /= f;
                    low /= f;
                }
            }
            return up == 0 ? new long[] {0, 1} : new long[] {up, low};
        }

        int quiet(int k, int c, int d, int part) {
            if (!open(k) || noChurch(c) || noChurch(d) || part < 0 || part > 1) {
                return -1;
            }
            return (int) odds(k, c, d)[part];
        }

        int quietest(int k, int what) {
            if (!open(k) || what < 0 || what > 1) {
                return -1;
            }
            int[] best = null;
            long[] most = null;
            for (int c = 0; c < now.churches.size(); c++) {
                for (int d = c; d < now.churches.size(); d++) {
                    long[] o = odds(k, c, d);
                    if (most == null || o[0] * most[1] > most[0] * o[1]) {
                        most = o;
                        best = new int[] {c, d};
                    }
                }
            }
            return best == null ? -1 : best[what];
        }

        int hush(int k, int what) {
            if (!open(k) || what < 0 || what > 1) {
                return -1;
            }
            Set<Integer> all = new TreeSet<>();
            for (int p : listeners(sit, k, sit.churches[k][0], sit.churches[k][1])) {
                if (ear(sit, p) > 0) {
                    all.add(p);
                }
            }
            return what == 0 ? all.size() : bits(all);
        }

        int will(int k, int n, int what) {
            if (noPair(k) || n < 0 || n > 60 || what < 0 || what > 1) {
                return -1;
            }
            Situation s = sit.copy();
            for (int i = 0; i < n; i++) {
                keep(s);
            }
            return what == 0 ? s.status[k] : s.read[k];
        }

        int settles(int k) {
            if (noPair(k)) {
                return -1;
            }
            for (int n = 0; n <= 60; n++) {
                if (will(k, n, 0) != 0) {
                    return n;
                }
            }
            return -1;
        }

        int season(int what) {
            if (what < 0 || what > 1) {
                return -1;
            }
            int best = 0;
            for (int set = 0; set < 1 << now.pairs.size(); set++) {
                if (Integer.bitCount(set) > Integer.bitCount(best) && allOpen(set) && canBeRead(set)) {
                    best = set;
                }
            }
            return what == 0 ? Integer.bitCount(best) : best;
        }

        boolean allOpen(int set) {
            for (int k = 0; k < now.pairs.size(); k++) {
                if ((set >> k & 1) == 1 && sit.status[k] != 0) {
                    return false;
                }
            }
            return true;
        }

        boolean canBeRead(int set) {
            int[] due = new int[now.pairs.size()];
            for (int k = 0; k < due.length; k++) {
                due[k] = (set >> k & 1) == 1 ? Math.max(0, 3 - sit.read[k]) : 0;
            }
            return canFrom(sit.sundays + 1, due, new HashSet<>());
        }

        boolean canFrom(int sunday, int[] due, Set<String> dead) {
            int left = 0;
            for (int d : due) {
                left += d;
            }
            if (left == 0) {
                return true;
            }
            String key = sunday + java.util.Arrays.toString(due);
            if (sunday > sit.sundays + 12 || !dead.add(key)) {
                return false;
            }
            for (int set = (1 << due.length) - 1; set >= 0; set--) {
                int[] next = due.clone();
                int[] calls = new int[4];
                boolean fits = true;
                for (int k = 0; k < due.length; k++) {
                    if ((set >> k & 1) == 1) {
                        Couple c = now.pairs.get(k);
                        next[k]--;
                        calls[sit.churches[k][0]]++;
                        if (sit.churches[k][0] != sit.churches[k][1]) {
                            calls[sit.churches[k][1]]++;
                        }
                        fits &= next[k] >= 0 && !away(c.one, sunday) && !away(c.other, sunday);
                    }
                }
                for (int n : calls) {
                    fits &= n <= now.calls;
                }
                if (fits && canFrom(sunday + 1, next, dead)) {
                    return true;
                }
            }
            return false;
        }

        int law(int degree) {
            if (degree < 0 || degree > 8) {
                return -100;
            }
            int more = 0;
            for (int k = 0; k < now.pairs.size(); k++) {
                int d = degree(now.pairs.get(k).one, now.pairs.get(k).other);
                if (sit.status[k] == 0 && d >= 0) {
                    more += (d <= degree ? 1 : 0) - (d <= now.degree ? 1 : 0);
                }
            }
            return more;
        }

        int free() {
            int n = 0;
            for (int p = 0; p < now.persons.size(); p++) {
                for (int q = 0; q < p; q++) {
                    n += barOf(sit, p, q, -1) == 0 ? 1 : 0;
                }
            }
            return n;
        }

        int say(String sort, int subject, int degree, boolean is, boolean cannot) {
            if (cannot || said.size() == 30) {
                return -1;
            }
            said.add(new Saying(sort, subject, degree, is, time));
            return said.size() - 1;
        }

        int sits(int c, boolean is) {
            return say("sits", c, 0, is, noChurch(c));
        }

        int knew(int p, boolean is) {
            return say("knows", p, 0, is, noPerson(p));
        }

        int kin(int p, int d, boolean is) {
            return say("kin", p, d, is, noPerson(p) || d < 0 || d > 8);
        }

        boolean untell(int n) {
            return n >= 0 && n < said.size() && untold.putIfAbsent(n, time) == null;
        }

        int later(int by) {
            if (by < 0 || by > 1000 || time + by > 100000) {
                return -1;
            }
            return time += by;
        }

        Set<Integer> meantSet(int k) {
            Set<Integer> left = new TreeSet<>();
            for (int p = 0; p < now.persons.size(); p++) {
                left.add(p);
            }
            for (int n = 0; n < said.size(); n++) {
                Saying s = said.get(n);
                if (s.told() > k || untold.containsKey(n) && untold.get(n) <= k) {
                    continue;
                }
                left.removeIf(p -> s.is() != switch (s.sort()) {
                    case "sits" -> sit.seats[p] == s.subject();
                    case "knows" -> knows(p).contains(s.subject());
                    default -> degree(p, s.subject()) >= 0 && degree(p, s.subject()) <= s.degree();
                });
            }
            return left;
        }

        int meant(int k) {
            return bits(meantSet(k));
        }

        int ask(int what, int k) {
            Set<Integer> left = meantSet(k);
            if (left.isEmpty() || what < 0 || what > 1) {
                return -1;
            }
            int best = -1;
            int fewest = 99;
            for (int q = now.persons.size() - 1; q >= 0; q--) {
                int x = q;
                int yes = (int) left.stream().filter(p -> knows(p).contains(x)).count();
                int most = Math.max(yes, left.size() - yes);
                if (most <= fewest) {
                    fewest = most;
                    best = q;
                }
            }
            return what == 0 ? best : fewest;
        }

        int image(int box) {
            if (box < 0 || box > 2) {
                return -1;
            }
            boxes.put(box, sit.copy());
            return sit.sundays;
        }

        int back(int box) {
            if (!boxes.containsKey(box)) {
                return -1;
            }
            sit = boxes.get(box).copy();
            past.clear();
            future.clear();
            return sit.sundays;
        }

        int about(int what) {
            switch (what) {
                case 0: return now.persons.size();
                case 1: return now.churches.size();
                case 2: return now.pairs.size();
                case 3: return sit.sundays;
                case 4: return sit.seed;
                case 5: return bits(wed(sit));
                case 6:
                    Set<Integer> all = new TreeSet<>();
                    for (int k = 0; k < sit.status.length; k++) {
                        if (sit.status[k] == 2) {
                            all.add(k);
                        }
                    }
                    return bits(all);
                case 7: return past.size();
                case 8: return future.size();
                case 9: return said.size();
                case 10: return time;
                case 11: return tape.length();
                case 12: return now.units;
                default: return -1;
            }
        }
    }
}
