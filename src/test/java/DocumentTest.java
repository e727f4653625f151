import java.io.IOException;
import java.lang.reflect.Method;
import java.lang.reflect.Modifier;
import java.nio.file.Files;
import java.nio.file.Path;
import java.util.ArrayList;
import java.util.List;
import java.util.Set;
import java.util.TreeSet;
import java.util.function.Consumer;
import java.util.regex.Matcher;
import java.util.regex.Pattern;
import java.util.stream.Stream;

/** The document from its first line: the sentences that name no bound, and that no sentence is left without a test. */
public final class DocumentTest {
    private static final int NONE = ThreeSundays.NONE;
    private static final Path DOCUMENT = Path.of("../shared/DOC.md");
    private static final Path TESTS = Path.of("src/test/java");
    private static final String TOLD = "church c;church d;person a in c;person b in d;person f in c;";

    public static void main(String[] args) throws IOException {
        threeSundays();
        manyCalls();
        face();
        lines();
        noTokens();
        personLines();
        pairLines();
        settingLines();
        unitsOfEachSort();
        ancestors();
        atFirst();
        hearingByChurch();
        acts();
        calledInOrder();
        quietInTwo();
        seasonReadings();
        meantToRise();
        personLooks();
        pairLooks();
        licences();
        quietestOfTwo();
        meantAsBits();
        looksChangeNothing();
        everySentence();
        Ledger.close(1, 4, 6, 7, 9, 10, 12, 14, 15, 16, 18, 19, 23, 26, 31);
    }

    private static void faulty(String text, int kind, int place) {
        Probe x = new Probe();
        x.put(text);
        if (x.town() != NONE || x.fault(0) != kind || x.fault(1) != place) {
            Ledger.complain("'" + text + "' has fault " + x.fault(0) + " at " + x.fault(1) + ", due is " + kind + " at " + place);
        }
    }

    // ------------------------------------------------------------------ what it is, and the face

    private static void threeSundays() {
        Ledger.sentence(15, "Read three Sundays: whoever would marry is called out in two churches on three Sundays, "
                + "and anyone may rise with a reason");
        String town = "church hill;church lake;church moor;person ann in hill;person bob in lake;person fay in ";
        // From 0 the draws of three Sundays are 71, 798 and 397.
        for (String seat : new String[] {"hill", "lake", "moor"}) {
            for (int heard = 7; heard <= 8; heard++) {
                Probe x = Probe.of(town + seat + ";spites fay ann;pair ann bob;hears (sunday=3)*" + heard + ";");
                boolean rises = heard == 8 && !seat.equals("moor");
                Ledger.due(x.sunday(), 0);
                Ledger.due(x.sunday(), 0);
                Ledger.due(x.pair(0, 4), 2);
                Ledger.due(x.pair(0, 5), 0);
                Ledger.due(x.sunday(), rises ? 0 : 1);
                Ledger.due(x.pair(0, 5), rises ? 2 : 1);
                Ledger.due(x.about(4), seat.equals("moor") ? 0 : 397);
            }
        }
        Probe calm = Probe.of(town + "hill;pair ann bob;");
        calm.sunday();
        calm.sunday();
        Ledger.due(calm.sunday(), 1);
    }

    // What is answered behind the 512th call is free, but the machine throws nothing in it.
    private static void manyCalls() {
        Ledger.sentence(1, "An object is used for at most 512 calls after it has been made; what later calls answer is free.");
        Probe x = new Probe();
        x.uncounted();
        x.tell(Probe.FULL);
        for (int k = 0; k < 3000; k++) {
            x.sunday();
            x.sit(k % 8, k / 8 % 4);
            x.move(k % 5, k % 4, k / 4 % 4);
            x.sits(k % 4, k % 2 == 0);
            x.later(1000);
            x.image(k % 3);
            x.feed(k, k, k, k, k);
            x.season(k % 2);
            x.ask(0, k);
            x.undo();
            x.undo();
            x.redo();
        }
        Ledger.due(x.about(0), 8);
    }

    private static void face() throws IOException {
        Ledger.sentence(1, "The public face");
        Set<String> seen = new TreeSet<>();
        for (Method m : ThreeSundays.class.getDeclaredMethods()) {
            if (!Modifier.isPrivate(m.getModifiers())) {
                StringBuilder types = new StringBuilder();
                for (Class<?> type : m.getParameterTypes()) {
                    types.append(type.getName()).append(' ');
                }
                seen.add(m.getReturnType().getName() + " " + m.getName() + "( " + types + ")");
            }
        }
        Set<String> due = new TreeSet<>();
        Matcher heads = Pattern.compile("(?m)^    public (int|boolean) (\\w+)\\((.*)\\);$").matcher(document());
        while (heads.find()) {
            due.add(heads.group(1) + " " + heads.group(2) + "( " + heads.group(3).replaceAll(" \\w+(, |$)", " ") + ")");
        }
        if (!due.isEmpty() && !due.equals(seen)) {
            Ledger.complain("the face is " + seen + ", due is " + due);
        }
        if (!document().isEmpty()) {
            Ledger.due(due.size(), 34);
        }
    }

    // ------------------------------------------------------------------ the text

    private static void lines() {
        Ledger.sentence(4, "town = {line}.");
        Ledger.due(Probe.of("").about(1), 0);
        Ledger.due(Probe.of("church c;").about(1), 1);
        // Lines of each sort in any order that tells ahead what they name.
        Probe x = Probe.of("draw 7;hears 2;church c;calls 1;person a in c;church d;person b in d;pair a b;knows b a;degree 1;person f in c;spites f a;");
        Ledger.due(x.about(0), 3);
        Ledger.due(x.about(1), 2);
        Ledger.due(x.about(2), 1);
        Ledger.due(x.about(4), 7);
        Ledger.due(x.hearing(2), 2);
        Ledger.due(x.person(1, 8), 0b001);
        Ledger.due(x.person(2, 9), 0b001);
        faulty("church c;;", 2, 9);
        faulty(";church c;", 2, 0);
        faulty("church c church d;", 2, 9);
        faulty("church c,", 1, 8);

        Ledger.sentence(4, "line = church NAME ;");
        faulty("church c d;", 2, 9);
        faulty("church c in d;", 2, 9);
        for (String head : new String[] {"in", "of", "and", "vow", "sails", "at", "or", "not", "sunday", "read", "seated", "own", "c", "3", "("}) {
            faulty(head + " c;", 2, 0);
            faulty("church c;" + head + " c;", 2, 9);
        }
    }

    private static void noTokens() {
        Ledger.sentence(4, "FAULTS, the first by its place (bytes from 0; the end: the text's length), at one place the least: 1 no TOKEN;");
        String[] tokens = "church c ; person p in c sails 3 ; degree 4 ; hears ( 1 + own ) < 2 ;".split(" ");
        // What is no token and can't stand there either is the lesser fault; a word that can't stand there is the other one.
        StringBuilder ahead = new StringBuilder();
        for (String token : tokens) {
            int place = ahead.length();
            for (String none : new String[] {"$", "C", "\t", "\u0000", "\u00e9", "12x", "12345", "abcdefghi"}) {
                faulty(ahead + none + " " + token, 1, place);
                faulty(ahead + none, 1, place);
            }
            faulty(ahead + "at " + token, 2, place);
            ahead.append(token).append(' ');
        }
        Ledger.due(Probe.of(ahead.toString()).hearing(0), 0);
    }

    private static void personLines() {
        Ledger.sentence(4, "person NAME in NAME [of NAME [and NAME]] [vow] [sails N] ;");
        String[] parents = {"", " of a", " of b", " of a and b", " of b and a"};
        int[][] due = {{NONE, NONE}, {0, NONE}, {1, NONE}, {0, 1}, {1, 0}};
        for (int k = 0; k < parents.length; k++) {
            for (int rest = 0; rest < 4; rest++) {
                String vow = (rest & 1) == 1 ? " vow" : "";
                String sails = (rest & 2) == 2 ? " sails 5" : "";
                Probe x = Probe.of(TOLD + "person g in d" + parents[k] + vow + sails + ";");
                Ledger.due(x.person(3, 0), 1);
                Ledger.due(x.person(3, 2), due[k][0]);
                Ledger.due(x.person(3, 3), due[k][1]);
                Ledger.due(x.person(3, 4), rest & 1);
                Ledger.due(x.person(3, 5), (rest & 2) == 2 ? 5 : 0);
            }
        }
        int at = TOLD.length();
        faulty(TOLD + "person g;", 2, at + 8);
        faulty(TOLD + "person g of a;", 2, at + 9);
        faulty(TOLD + "person g in;", 2, at + 11);
        faulty(TOLD + "person g in d of;", 2, at + 16);
        faulty(TOLD + "person g in d and a;", 2, at + 14);
        faulty(TOLD + "person g in d of a and;", 2, at + 22);
        faulty(TOLD + "person g in d of a and b and f;", 2, at + 25);
        faulty(TOLD + "person g in d of a of b;", 2, at + 19);
        faulty(TOLD + "person g in d vow of a;", 2, at + 18);
        faulty(TOLD + "person g in d sails;", 2, at + 19);
        faulty(TOLD + "person g in d sails vow;", 2, at + 20);
        faulty(TOLD + "person g in d sails 5 vow;", 2, at + 22);
        faulty(TOLD + "person g in d sails 5 sails 5;", 2, at + 22);
        faulty(TOLD + "person g in d sails 5 of a;", 2, at + 22);
        faulty(TOLD + "person g in d 5;", 2, at + 14);
    }

    private static void pairLines() {
        int at = TOLD.length();
        for (String sort : new String[] {"knows", "spites", "pair"}) {
            Ledger.sentence(4, sort.equals("pair") ? "pair NAME NAME [at NAME NAME] ;" : sort + " NAME NAME ;");
            int head = at + sort.length();
            faulty(TOLD + sort + ";", 2, head);
            faulty(TOLD + sort + " a;", 2, head + 2);
            faulty(TOLD + sort + " a b f;", 2, head + 5);
            faulty(TOLD + sort + " a and b;", 2, head + 3);
            faulty(TOLD + sort + " a b", 2, head + 4);
            faulty(TOLD + sort + " z b;", 5, head + 1);
            faulty(TOLD + sort + " a c;", 5, head + 3);
            if (!sort.equals("pair")) {
                faulty(TOLD + sort + " a b at c d;", 2, head + 5);
            }
        }
        Probe x = Probe.of(TOLD + "knows a b;knows b f;spites f b;spites a f;pair a b;pair f a at d c;");
        Ledger.due(x.person(0, 8), 0b010);
        Ledger.due(x.person(1, 8), 0b100);
        Ledger.due(x.person(2, 8), 0);
        Ledger.due(x.person(0, 9), 0b100);
        Ledger.due(x.person(1, 9), 0);
        Ledger.due(x.person(2, 9), 0b010);
        int[][] pairs = {{0, 1, 0, 1}, {2, 0, 1, 0}};
        for (int pair = 0; pair < 2; pair++) {
            for (int what = 0; what < 4; what++) {
                Ledger.due(x.pair(pair, what), pairs[pair][what]);
            }
        }
        faulty(TOLD + "pair a b at;", 2, at + 11);
        faulty(TOLD + "pair a b at c;", 2, at + 13);
        faulty(TOLD + "pair a b at c and d;", 2, at + 14);
        faulty(TOLD + "pair a b at c d c;", 2, at + 16);
        faulty(TOLD + "pair a b in c;", 2, at + 9);
        faulty(TOLD + "pair a b at a d;", 5, at + 12);
        faulty(TOLD + "pair a b at c z;", 5, at + 14);
    }

    private static void settingLines() {
        Ledger.sentence(4, "hears e ; | degree N ; | calls N ; | draw N ;.");
        Probe x = Probe.of(TOLD + "hears 3;degree 0;calls 1;draw 8;person g in c of a;person h in c of a;pair a g;pair a b at c c;");
        Ledger.due(x.hearing(0), 3);
        Ledger.due(x.pair(0, 6), 0);
        Ledger.due(x.pair(0, 8), 1);
        Ledger.due(x.pair(1, 8), 0);
        Ledger.due(x.about(4), 8);
        for (String sort : new String[] {"degree", "calls", "draw"}) {
            int head = sort.length();
            faulty(sort + ";", 2, head);
            faulty(sort + " 1", 2, head + 2);
            faulty(sort + " 1 1;", 2, head + 3);
            faulty(sort + " 1+1;", 2, head + 2);
            faulty(sort + " (1);", 2, head + 1);
            faulty(sort + " own;", 2, head + 1);
            faulty(sort + " -1;", 2, head + 1);
            faulty(sort + "=1;", 2, head);
        }
        faulty("hears 1", 2, 7);
        faulty("hears 1,2;", 1, 7);
    }

    private static void unitsOfEachSort() {
        Ledger.sentence(10, "unit = N | sunday | read | seated | own | ( e ).");
        String[] units = {"7", "sunday", "read", "seated", "own", "(3 or 0)", "(9)", "(not 4)"};
        // Two pairs are read in c on the first Sunday, four sit there, and one of them was told in it.
        int[] due = {7, 1, 2, 4, 1, 1, 9, 0};
        String town = "church c;church d;person a in c;person b in d;person f in d;person g in d;pair a b;pair a f;calls 2;hears ";
        for (int k = 0; k < units.length; k++) {
            Probe x = Probe.of(town + units[k] + ";");
            x.sit(1, 0);
            x.sit(2, 0);
            x.sit(3, 0);
            Ledger.due(x.hearing(0), due[k]);
            Ledger.due(x.hearing(3), k == 4 ? 0 : due[k]);
            Ledger.due(x.about(12), units[k].startsWith("(3") ? 3 : units[k].startsWith("(") ? 2 : 1);
        }
        for (String word : new String[] {"church", "in", "vow", "sails", "calls", "draw", "c", "or", "and", ")", "<", "*", ";"}) {
            faulty("hears " + word, 2, 6);
            faulty("hears 1+" + word, 2, 8);
            faulty("hears (" + word, 2, 7);
        }
    }

    // ------------------------------------------------------------------ terms

    private static void ancestors() {
        Ledger.sentence(9, "ANCESTORS of a PERSON: he himself, his parents, theirs, and so on.");
        Probe x = Probe.of("church c;person a in c;person b in c;person d in c of a;person f in c of b and d;person g in c;"
                + "person h in c of f and g;person i in c of h and a;person j in c of d;");
        int[] due = {0b1, 0b10, 0b101, 0b1111, 0b10000, 0b111111, 0b1111111, 0b10000101};
        for (int person = 0; person < due.length; person++) {
            Ledger.due(x.ancestors(person), due[person]);
        }
        Ledger.due(x.ancestors(8), NONE);
        Ledger.due(x.ancestors(-1), NONE);
        // Whom he knows, where he sits and whom he weds is nothing to it.
        x = Probe.of(TOLD + "knows a b;knows b a;pair a b;");
        x.licence(0);
        x.sit(0, 1);
        Ledger.due(x.ancestors(0), 0b1);
    }

    private static void atFirst() {
        Ledger.sentence(6, "A PERSON SITS in a CHURCH (as told, at first).");
        Probe x = Probe.of(TOLD + "pair a b;pair a f at d c;");
        int[] told = {0, 1, 0};
        for (int person = 0; person < told.length; person++) {
            Ledger.due(x.person(person, 0), told[person]);
            Ledger.due(x.person(person, 1), told[person]);
        }
        Ledger.sentence(7, "A PAIR is OPEN (at first), WED or VOID, is READ in two CHURCHES (as told, at first), as often as it was (0 at first).");
        int[][] due = {{0, 1, 0, 0}, {1, 0, 0, 0}};
        for (int pair = 0; pair < due.length; pair++) {
            for (int what = 2; what <= 5; what++) {
                Ledger.due(x.pair(pair, what), due[pair][what - 2]);
            }
        }
        // A pair is read where it was told, wherever its two sit by now.
        x.sit(0, 1);
        x.sit(1, 0);
        Ledger.due(x.pair(0, 2), 0);
        Ledger.due(x.pair(0, 3), 1);
        Ledger.due(x.about(5) + x.about(6), 0);
    }

    private static void hearingByChurch() {
        Ledger.sentence(10, "HEARING of one who SITS in a CHURCH: what comes of hears (10, if it is not told) by sunday (the next one's number), "
                + "read (how many PAIRS are read there then)");
        Probe x = Probe.of("church c;church d;church e;person a in c;person b in d;person f in e;person g in d;pair a b;pair a g at d d;hears read*3+sunday;");
        Ledger.due(x.hearing(0), 4);
        Ledger.due(x.hearing(1), 7);
        Ledger.due(x.hearing(2), 1);
        x.sit(2, 1);
        Ledger.due(x.hearing(2), 7);
        x.sunday();
        Ledger.due(x.hearing(2), 8);
        x.licence(1);
        // The other pair is of one who is wed, but open, and so read on.
        Ledger.due(x.hearing(2), 5);
        x.sit(2, 0);
        Ledger.due(x.hearing(2), 5);
        x.move(0, 2, 2);
        Ledger.due(x.hearing(2), 2);
    }

    private static void acts() {
        Ledger.sentence(12, "ACTS: a PERSON SITS elsewhere; an OPEN PAIR is READ in two CHURCHES, alike or not;");
        Probe x = Probe.of(TOLD + "pair a b;pair a f;");
        x.sit(2, 1);
        Ledger.due(x.about(7), 1);
        x.move(0, 0, 1);
        Ledger.due(x.about(7), 2);
        x.move(0, 1, 1);
        Ledger.due(x.about(7), 3);
        Ledger.sentence(14, "a licence: an OPEN PAIR is WED at once, if it has no BAR; a SUNDAY.");
        x.licence(0);
        Ledger.due(x.about(7), 4);
        x.sunday();
        Ledger.due(x.about(7), 5);
        Ledger.sentence(16, "UNDO takes back the latest ACT that was not, REDO does that again which was taken back last (till another ACT)");
        int[][] seen = {{1, 1, 1, 1, 1}, {1, 1, 1, 1, 0}, {1, 1, 1, 0, 0}, {1, 0, 1, 0, 0}, {1, 0, 1, 0, 0}, {0, 0, 1, 0, 0}};
        for (int k = 0; k < seen.length; k++) {
            Ledger.due(x.person(2, 0), seen[k][0]);
            Ledger.due(x.pair(0, 2), seen[k][1]);
            Ledger.due(x.pair(0, 3), seen[k][2]);
            Ledger.due(x.pair(0, 5), seen[k][3]);
            Ledger.due(x.about(3), seen[k][4]);
            Ledger.due(x.about(8), k);
            Ledger.due(x.undo(), k < 5);
        }
        for (int k = 0; k < 5; k++) {
            Ledger.due(x.redo(), true);
        }
        Ledger.due(x.redo(), false);
        Ledger.due(x.about(3), 1);
        Ledger.due(x.pair(0, 5), 1);
    }

    private static void calledInOrder() {
        Ledger.sentence(15, "A SUNDAY: PAIR by PAIR, each OPEN one of which none is AWAY on it is called");
        String town = "church c;church d;person a in c;person b in c;person f in d;person g in d sails 2;calls 1;";
        String[] pairs = {"pair a b;pair a f;pair f g;", "pair a f;pair a b;pair f g;", "pair f g;pair a f;pair a b;"};
        int[][] due = {{0b101, 0b001}, {0b001, 0b001}, {0b101, 0b010}};
        for (int k = 0; k < pairs.length; k++) {
            Probe x = Probe.of(town + pairs[k]);
            for (int sunday = 0; sunday < 2; sunday++) {
                int[] before = readings(x);
                for (int pair = 0; pair < 3; pair++) {
                    Ledger.due(x.pair(pair, 8), due[k][sunday] >> pair & 1);
                }
                x.sunday();
                int[] behind = readings(x);
                for (int pair = 0; pair < 3; pair++) {
                    Ledger.due(behind[pair] - before[pair], due[k][sunday] >> pair & 1);
                }
            }
        }
    }

    private static int[] readings(Probe x) {
        return new int[] {x.pair(0, 4), x.pair(1, 4), x.pair(2, 4)};
    }

    private static void quietInTwo() {
        Ledger.sentence(18, "QUIET of a PAIR in two CHURCHES: the odds that nobody who WOULD RISE hears it on the next SUNDAY");
        // In c sit two who would rise, in d one, in e nobody; hearing is 3 where one was told, else 5.
        Probe x = Probe.of("church c;church d;church e;person a in c;person b in d;person f in c;person g in c;person h in d;"
                + "spites f a;spites g b;spites h a;pair a b;hears 5-own*2;");
        int[][] due = {{0, 0, 49, 100}, {1, 1, 7, 10}, {2, 2, 1, 1}, {0, 1, 343, 1000}, {1, 0, 343, 1000}, {0, 2, 49, 100}, {2, 1, 7, 10}};
        for (int[] row : due) {
            Ledger.due(x.quiet(0, row[0], row[1], 0), row[2]);
            Ledger.due(x.quiet(0, row[0], row[1], 1), row[3]);
        }
        x.sit(4, 2);
        Ledger.due(x.quiet(0, 2, 2, 0), 1);
        Ledger.due(x.quiet(0, 2, 2, 1), 2);
        Ledger.due(x.quiet(0, 1, 1, 0), 1);
        Ledger.due(x.quiet(0, 1, 1, 1), 1);
        Ledger.due(x.quiet(0, 3, 1, 1), NONE);
    }

    private static void seasonReadings() {
        Ledger.sentence(23, "SEASON: OPEN PAIRS that can all be read as often as they must be still (three times in all)");
        String town = "church c;church d;person a in c;person b in c;person f in d;person g in d sails ";
        // Both, if the one that sails is read on three of the Sundays ahead and the other one on the rest of the twelve.
        for (int sails = 1; sails <= 12; sails++) {
            Probe x = Probe.of(town + sails + ";pair a b at c d;pair f g at d c;calls 1;");
            Ledger.due(x.season(1), sails > 3 ? 0b11 : 0b01);
            Ledger.due(x.season(0), sails > 3 ? 2 : 1);
        }
        // It is read once, and two readings are ahead of the sailing.
        Probe x = Probe.of(town + "4;pair f g;calls 1;");
        x.sunday();
        Ledger.due(x.season(1), 1);
        // Read elsewhere on the one Sunday on which it could have been, it has one too few.
        x = Probe.of(town + "4;pair a b at d d;pair f g;calls 1;");
        Ledger.due(x.season(0), 2);
        x.sunday();
        Ledger.due(x.season(1), 0b01);
        x.licence(0);
        Ledger.due(x.season(0), 0);
    }

    private static void meantToRise() {
        Ledger.sentence(26, "UNTOLD at a later one or the same, of one who meant to rise: that he SITS in a CHURCH, that he KNOWS a PERSON");
        // He may be anyone: one of a pair, one who is away, one who would not rise.
        Probe x = Probe.of(TOLD + "person g in c sails 1;pair a b;knows g b;");
        Ledger.due(x.meant(0), 0b1111);
        x.sits(0, true);
        Ledger.due(x.meant(0), 0b1101);
        x.knew(1, true);
        Ledger.due(x.meant(0), 0b1000);
        x.untell(0);
        x.untell(1);
        Ledger.due(x.meant(0), 0b1111);
    }

    // ------------------------------------------------------------------ promises

    private static void personLooks() {
        Ledger.sentence(6, "6: 1 if he is AWAY on the next SUNDAY, else 0,");
        Probe x = Probe.of("church c;person a in c sails 3;person b in c sails 1;person f in c;");
        for (int next = 1; next <= 5; next++) {
            Ledger.due(x.person(0, 6), next >= 3 ? 1 : 0);
            Ledger.due(x.person(1, 6), 1);
            Ledger.due(x.person(2, 6), 0);
            x.sunday();
        }
        for (int k = 0; k < 3; k++) {
            x.undo();
        }
        Ledger.due(x.about(3), 2);
        Ledger.due(x.person(0, 6), 1);
        x.undo();
        Ledger.due(x.person(0, 6), 0);
        Ledger.sentence(6, "`int person(int person, int what)`: Of a PERSON what 0: where he SITS");
        Ledger.due(x.person(3, 0), -2);
        Ledger.due(x.person(3, 6), -2);
    }

    private static void pairLooks() {
        Ledger.sentence(7, "Of a PAIR what 0, 1: its PERSONS, 2, 3: its CHURCHES,");
        Probe x = Probe.of(TOLD + "person g in d of a;knows f g;spites b g;pair g a;pair f b at d d;pair b a;");
        int[][] due = {{3, 0, 1, 0}, {2, 1, 1, 1}, {1, 0, 1, 0}};
        for (int pair = 0; pair < due.length; pair++) {
            for (int what = 0; what < 4; what++) {
                Ledger.due(x.pair(pair, what), due[pair][what]);
            }
        }
        Ledger.due(x.pair(3, 0), NONE);
        Ledger.sentence(7, "6: BAR, 7: who WOULD RISE, as bits,");
        Ledger.due(x.pair(0, 6), 1);
        Ledger.due(x.pair(0, 7), 0b0110);
        Ledger.due(x.pair(1, 6), 0);
        Ledger.due(x.pair(1, 7), 0);
        // The third is barred by the wedding of the second: then the child knows one of it.
        Ledger.due(x.pair(2, 7), 0);
        x.licence(1);
        Ledger.due(x.pair(1, 6), 0);
        Ledger.due(x.pair(2, 6), 3);
        Ledger.due(x.pair(2, 7), 0b1000);
    }

    private static void licences() {
        Ledger.sentence(14, "A licence: true; false, doing nothing, if it is not OPEN, has a BAR, or there is none such.");
        Probe x = Probe.of(TOLD + "person g in d of a;pair a g;pair a b;pair f b;");
        Ledger.due(x.licence(0), false);
        Ledger.due(x.licence(1), true);
        Ledger.due(x.licence(1), false);
        Ledger.due(x.licence(2), false);
        Ledger.due(x.licence(3), false);
        Ledger.due(x.about(5), 0b010);
        Ledger.due(x.about(7), 1);
    }

    private static void quietestOfTwo() {
        Ledger.sentence(19, "QUIETEST what 0: the lower CHURCH, 1: the other one;");
        String town = "church c;church d;church e;person a in c;person b in c;person f in c;person g in d;person h in e;pair a b;";
        String[] spites = {"", "spites f a;", "spites f a;spites g a;", "spites f a;spites g a;spites h a;", "spites g a;", "spites h b;"};
        int[] due = {0, 1, 2, 0, 0, 0};
        for (int k = 0; k < spites.length; k++) {
            Probe x = Probe.of(town + spites[k] + "hears 4;");
            Ledger.due(x.quietest(0, 0), due[k]);
            Ledger.due(x.quietest(0, 1), due[k]);
        }
        Probe x = Probe.of(town + "spites f a;spites g a;spites h a;hears own*2+3;");
        x.sit(2, 1);
        Ledger.due(x.quietest(0, 0), 0);
        x.sit(3, 0);
        Ledger.due(x.quietest(0, 0), 0);
        x.sit(4, 0);
        Ledger.due(x.quietest(0, 0), 2);
        Ledger.due(x.quietest(0, 1), 2);
    }

    private static void meantAsBits() {
        Ledger.sentence(31, "MEANT, as bits.");
        Probe x = Probe.of(Probe.FULL);
        Ledger.due(x.meant(0), 255);
        x.sits(3, false);
        Ledger.due(x.meant(0), 0b01110111);
        x.sits(0, false);
        Ledger.due(x.meant(0), 0b01100110);
        x.sits(1, true);
        x.sits(2, true);
        Ledger.due(x.meant(0), 0);
        Ledger.due(x.meant(-1), 255);
    }

    private static void looksChangeNothing() {
        Ledger.sentence(15, "Nothing is promised beyond the answers and state changes described above");
        List<Consumer<Probe>> looks = List.of(
                x -> x.fault(0), x -> x.fault(1), x -> x.person(1, 8), x -> x.pair(0, 7), x -> x.degree(3, 2), x -> x.ancestors(3),
                x -> x.hearing(2), x -> x.church(1, 1), x -> x.quiet(0, 0, 1, 0), x -> x.quietest(0, 0), x -> x.hush(0, 1),
                x -> x.will(0, 60, 1), x -> x.settles(0), x -> x.season(1), x -> x.law(8), x -> x.free(), x -> x.meant(2),
                x -> x.ask(0, 4), x -> x.about(12));
        for (int k = 0; k < looks.size(); k++) {
            Probe with = Probe.busy();
            looks.get(k).accept(with);
            String call = Ledger.latestCall();
            Ledger.alike(call, with, Probe.busy());
        }
    }

    // ------------------------------------------------------------------ no sentence without a test

    private static String document() throws IOException {
        return Files.exists(DOCUMENT) ? Files.readString(DOCUMENT) : "";
    }

    private static void everySentence() throws IOException {
        String text = document().replaceAll("\\s+", " ");
        boolean[] quoted = new boolean[text.length()];
        for (String quote : quotes()) {
            for (int at = text.indexOf(quote); at >= 0; at = text.indexOf(quote, at + 1)) {
                for (int k = at; k < at + quote.length(); k++) {
                    quoted[k] = true;
                }
            }
        }
        int from = Math.max(0, text.indexOf("## Terms"));
        int to = Math.max(from, text.indexOf("## Not promised"));
        StringBuilder left = new StringBuilder();
        for (int k = from; k < to; k++) {
            left.append(quoted[k] ? '~' : text.charAt(k));
        }
        // Headings, the heads of the methods and the marks of the blocks are no sentences.
        String bare = left.toString().replaceAll("#+ Promise \\d+: [A-Za-z ]*", "").replaceAll("## Terms", "")
                .replaceAll("`(int|boolean) \\w+\\([a-z, ]*\\)`:", "").replaceAll("```(text)?", "").replaceAll("==== \\d\\.", "");
        Matcher words = Pattern.compile("[A-Za-z0-9][^~]*").matcher(bare);
        while (words.find()) {
            Ledger.complain("no test quotes: " + words.group());
        }
    }

    private static List<String> quotes() throws IOException {
        List<String> all = new ArrayList<>();
        Pattern call = Pattern.compile("Ledger\\.sentence\\(\\s*\\d+,\\s*((?:\"(?:[^\"\\\\]|\\\\.)*\"\\s*\\+?\\s*)+)\\)");
        try (Stream<Path> files = Files.list(TESTS)) {
            for (Path file : files.sorted().toList()) {
                Matcher found = call.matcher(Files.readString(file));
                while (found.find()) {
                    all.add(joined(found.group(1)));
                }
            }
        }
        all.add("pair NAME NAME [at NAME NAME] ;");
        all.add("knows NAME NAME ;");
        all.add("spites NAME NAME ;");
        return all;
    }

    private static String joined(String literals) {
        StringBuilder all = new StringBuilder();
        Matcher parts = Pattern.compile("\"((?:[^\"\\\\]|\\\\.)*)\"").matcher(literals);
        while (parts.find()) {
            all.append(parts.group(1).replace("\\\"", "\"").replace("\\\\", "\\"));
        }
        return all.toString();
    }
}
