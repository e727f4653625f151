import java.nio.charset.StandardCharsets;

/** For each promise of the document: ordinary calls, the edges that it names, and wrong arguments. */
public final class PromisesTest {
    private static final int NONE = ThreeSundays.NONE;
    private static final int[] WRONG = {-1, -2, 99, Integer.MIN_VALUE, Integer.MAX_VALUE};

    /** Kin of three ages, a vow, a sailor, two churches. */
    private static final String FAMILY = "church hill; church lake; church moor;"
            + "person gran in hill; person ann in hill of gran; person bob in lake of gran;"
            + "person cat in hill of ann; person dan in lake of bob; person eve in lake vow;"
            + "person fay in hill; person gus in lake sails 3;"
            + "knows fay eve; knows gus cat; spites fay gus;"
            + "pair cat dan; pair eve gus; pair fay gus at hill hill; degree 4; calls 2; draw 9;";

    private static int wrong = 0;
    private static int promise = 0;

    private static void due(String call, long got, long want) {
        if (got != want) {
            wrong++;
            System.out.println("promise " + promise + ": " + call + " answered " + got + ", due is " + want);
        }
    }

    private static void due(String call, boolean got, boolean want) {
        due(call, got ? 1 : 0, want ? 1 : 0);
    }

    private static void put(ThreeSundays x, String text) {
        byte[] bytes = text.getBytes(StandardCharsets.ISO_8859_1);
        x.end(0);
        for (int at = 0; at < bytes.length; at += 20) {
            int[] n = new int[5];
            for (int k = 0; k < 20 && at + k < bytes.length; k++) {
                n[k / 4] |= (bytes[at + k] & 255) << 24 - k % 4 * 8;
            }
            x.feed(n[0], n[1], n[2], n[3], n[4]);
        }
        x.end(bytes.length);
    }

    private static ThreeSundays told(String text) {
        ThreeSundays x = new ThreeSundays();
        put(x, text);
        if (x.town() == NONE) {
            wrong++;
            System.out.println("promise " + promise + ": fault " + x.fault(0) + " at " + x.fault(1) + " in " + text);
        }
        return x;
    }

    private static void faulty(String text, int kind, int place) {
        ThreeSundays x = new ThreeSundays();
        put(x, text);
        due("town() of " + text, x.town(), NONE);
        due("fault(0) of " + text, x.fault(0), kind);
        due("fault(1) of " + text, x.fault(1), place);
    }

    private static void sound(String text) {
        ThreeSundays x = new ThreeSundays();
        put(x, text);
        x.town();
        due("fault(0) of " + text, x.fault(0), 0);
        due("fault(1) of " + text, x.fault(1), NONE);
    }

    /** How well one hears by a formula, in a town of three of whom two would marry. */
    private static void hears(String formula, int want) {
        ThreeSundays x = told("church c; church d; person a in c; person b in c; person f in d;"
                + "pair a b; hears " + formula + ";");
        due("hearing(0) by " + formula, x.hearing(0), want);
    }

    public static void main(String[] args) {
        newObject();
        feed();
        end();
        town();
        fault();
        faultsByKind();
        limits();
        formulas();
        person();
        pair();
        degree();
        ancestors();
        hearing();
        church();
        sit();
        move();
        licence();
        sunday();
        undo();
        redo();
        quiet();
        quietest();
        hush();
        will();
        settles();
        season();
        law();
        free();
        sits();
        knew();
        kin();
        untell();
        later();
        meant();
        ask();
        image();
        back();
        about();
        System.out.println(wrong == 0 ? "all promises are kept" : wrong + " answers are not as due");
        if (wrong != 0) {
            System.exit(1);
        }
    }

    private static void newObject() {
        promise = 1;
        ThreeSundays x = new ThreeSundays();
        for (int what = 0; what <= 12; what++) {
            due("about(" + what + ")", x.about(what), 0);
        }
        due("NONE", ThreeSundays.NONE, -1);
        due("person(0, 0)", x.person(0, 0), -2);
        due("pair(0, 0)", x.pair(0, 0), NONE);
        due("church(0, 0)", x.church(0, 0), NONE);
        due("degree(0, 0)", x.degree(0, 0), NONE);
        due("ancestors(0)", x.ancestors(0), NONE);
        due("hearing(0)", x.hearing(0), NONE);
        due("sit(0, 0)", x.sit(0, 0), NONE);
        due("move(0, 0, 0)", x.move(0, 0, 0), NONE);
        due("licence(0)", x.licence(0), false);
        due("undo()", x.undo(), false);
        due("redo()", x.redo(), false);
        due("quiet(0, 0, 0, 0)", x.quiet(0, 0, 0, 0), NONE);
        due("quietest(0, 0)", x.quietest(0, 0), NONE);
        due("hush(0, 0)", x.hush(0, 0), NONE);
        due("will(0, 0, 0)", x.will(0, 0, 0), NONE);
        due("settles(0)", x.settles(0), NONE);
        due("season(0)", x.season(0), 0);
        due("law(4)", x.law(4), 0);
        due("free()", x.free(), 0);
        due("sits(0, true)", x.sits(0, true), NONE);
        due("knew(0, true)", x.knew(0, true), NONE);
        due("kin(0, 0, true)", x.kin(0, 0, true), NONE);
        due("untell(0)", x.untell(0), false);
        due("meant(0)", x.meant(0), 0);
        due("ask(0, 0)", x.ask(0, 0), NONE);
        due("back(0)", x.back(0), NONE);
        due("image(0)", x.image(0), 0);
        due("back(0)", x.back(0), 0);
        due("sunday()", x.sunday(), 0);
        due("about(7)", x.about(7), 1);
    }

    private static void feed() {
        promise = 2;
        ThreeSundays x = new ThreeSundays();
        due("feed", x.feed(0x63687572, 0x63682061, 0x62636465, 0x66673b20, 0x20202020), 20);
        due("town()", x.town(), 0);
        due("about(1)", x.about(1), 1);
        for (int k = 1; k <= 80; k++) {
            due("feed " + k, x.feed(0x20202020, 0x20202020, 0x20202020, 0x20202020, 0x20202020), 20 * k);
        }
        due("feed beyond", x.feed(0, 0, 0, 0, 0), NONE);
        due("about(11)", x.about(11), 1600);
        due("end", x.end(1581), 1581);
        due("feed beyond", x.feed(0, 0, 0, 0, 0), NONE);
        due("about(11)", x.about(11), 1581);
        due("end", x.end(1580), 1580);
        due("feed to the end", x.feed(0x20202020, 0x20202020, 0x20202020, 0x20202020, 0x20202024), 1600);
        due("town()", x.town(), NONE);
        due("fault(1)", x.fault(1), 1599);
        x.feed(0x20200a20, 0x80000000, 0, 0, 0);
        due("town()", x.town(), NONE);
        due("fault(0)", x.fault(0), 1);
        due("fault(1)", x.fault(1), 4);
    }

    private static void end() {
        promise = 3;
        ThreeSundays x = new ThreeSundays();
        due("end(0)", x.end(0), 0);
        due("end(1)", x.end(1), NONE);
        due("end(-1)", x.end(-1), NONE);
        x.feed(0x20202020, 0x20202020, 0x20202020, 0x20202020, 0x20202020);
        due("end(21)", x.end(21), NONE);
        due("end(-1)", x.end(-1), NONE);
        due("about(11)", x.about(11), 20);
        due("end(20)", x.end(20), 20);
        due("end(7)", x.end(7), 7);
        due("about(11)", x.about(11), 7);
        due("end(8)", x.end(8), NONE);
        due("feed", x.feed(0, 0, 0, 0, 0), 27);
        due("town()", x.town(), NONE);
        due("fault(1)", x.fault(1), 7);
    }

    private static void town() {
        promise = 4;
        ThreeSundays x = told(FAMILY);
        due("about(11)", x.about(11), 0);
        x.later(5);
        x.sits(0, true);
        x.image(1);
        x.sunday();
        x.sit(0, 1);
        x.undo();
        put(x, "church c; person");
        due("town() with a fault", x.town(), NONE);
        due("about(11)", x.about(11), 0);
        due("about(0)", x.about(0), 8);
        due("about(3)", x.about(3), 1);
        due("about(7)", x.about(7), 1);
        due("about(8)", x.about(8), 1);
        due("about(9)", x.about(9), 1);
        due("back(1)", x.back(1), 0);
        x.sunday();
        put(x, "church c; person a in c; draw 7;");
        due("town()", x.town(), 1);
        due("about(3)", x.about(3), 0);
        due("about(4)", x.about(4), 7);
        due("about(7)", x.about(7), 0);
        due("about(9)", x.about(9), 0);
        due("about(10)", x.about(10), 5);
        due("back(1)", x.back(1), NONE);
        due("undo()", x.undo(), false);
        due("town() of an empty tape", x.town(), 0);
        due("about(1)", x.about(1), 0);
        x = told("church\nc;person\na\nin c;person b in c of a vow sails 12;hears(1)and(2)or not own;");
        due("person(1, 2)", x.person(1, 2), 0);
    }

    private static void fault() {
        promise = 5;
        ThreeSundays x = new ThreeSundays();
        due("fault(0)", x.fault(0), 0);
        due("fault(1)", x.fault(1), NONE);
        put(x, "church c; $");
        x.town();
        due("fault(0)", x.fault(0), 1);
        due("fault(1)", x.fault(1), 10);
        for (int what : WRONG) {
            due("fault(" + what + ")", x.fault(what), NONE);
        }
        due("fault(2)", x.fault(2), NONE);
        put(x, "church c;");
        x.town();
        due("fault(0)", x.fault(0), 0);
        due("fault(1)", x.fault(1), NONE);
    }

    private static void faultsByKind() {
        promise = 4;
        String two = "church c;person p in c;person q in c;";
        faulty("$", 1, 0);
        faulty("church C;", 1, 7);
        faulty("church c;\t", 1, 9);
        faulty("church abcdefghi;", 1, 7);
        faulty("draw 12345;", 1, 5);
        faulty("draw 12x;", 1, 5);
        faulty("draw 9999x;", 1, 5);
        faulty("hears 1and 2;", 1, 6);
        faulty("draw 12A;", 1, 7);
        faulty("church", 2, 6);
        faulty("church  ", 2, 8);
        faulty("churchc;", 2, 0);
        faulty("church ;", 2, 7);
        faulty("church own;", 2, 7);
        faulty("church 1;", 2, 7);
        faulty("church c", 2, 8);
        faulty("church c person", 2, 9);
        faulty("c;", 2, 0);
        faulty(";", 2, 0);
        faulty("sunday;", 2, 0);
        faulty("7;", 2, 0);
        faulty("church c;person p at c;", 2, 18);
        faulty("church c;person p in c sails 3 vow;", 2, 31);
        faulty(two + "person r in c and p;", 2, 51);
        faulty(two + "person r in c of p q;", 2, 56);
        faulty(two + "person r in c of in;", 2, 54);
        faulty(two + "knows p;", 2, 44);
        faulty(two + "pair p q c c;", 2, 46);
        faulty(two + "pair p q at c;", 2, 50);
        faulty("degree c;", 2, 7);
        faulty("church c;church d;church c;", 3, 25);
        faulty("church c;person c in c;person c in c;", 3, 30);
        faulty(two + "person r in c of q and q;", 3, 60);
        faulty(two + "knows p p;", 3, 45);
        faulty(two + "knows p q;knows q p;knows p q;", 3, 65);
        faulty(two + "spites q q;", 3, 46);
        faulty(two + "spites p q;spites q p;spites q p;", 3, 68);
        faulty(two + "pair p p;", 3, 44);
        faulty(two + "pair p q;pair p q;", 3, 53);
        faulty(two + "pair p q;pair q p;", 3, 53);
        faulty("degree 9;", 4, 7);
        faulty("calls 0;", 4, 6);
        faulty("calls 6;", 4, 6);
        faulty("draw 1000;", 4, 5);
        faulty("church c;person p in c sails 0;", 4, 29);
        faulty("church c;person p in c sails 13;", 4, 29);
        faulty("person p in c;", 5, 12);
        faulty("church c;person p in p;", 5, 21);
        faulty("church c;person p in c of p;", 5, 26);
        faulty("church c;person p in c of c;", 5, 26);
        faulty(two + "person r in c of p and r;", 5, 60);
        faulty(two + "knows c p;", 5, 43);
        faulty(two + "knows p c;", 5, 45);
        faulty(two + "spites p z;", 5, 46);
        faulty(two + "pair z z;", 5, 42);
        faulty(two + "pair p z;", 5, 44);
        faulty(two + "pair p q at p c;", 5, 49);
        faulty(two + "pair p q at c q;", 5, 51);
        sound(two + "knows p q;knows q p;spites p q;spites q p;pair p q at c c;");
        sound("church abcdefgh;person abcdefgh in abcdefgh;");
        sound("degree 0;calls 5;draw 999;hears 0;");
        sound("degree 0008;calls 1;draw 0;");
        sound(" \n");
    }

    private static void limits() {
        promise = 4;
        String churches = "church a;church b;church c;church d;";
        sound(churches);
        faulty(churches + "church a;", 2, 36);
        String persons = "church c;";
        for (int k = 0; k < 8; k++) {
            persons += "person " + (char) ('a' + k) + " in c;";
        }
        sound(persons);
        faulty(persons + "person", 2, persons.length());
        String knows = persons;
        for (int k = 0; k < 12; k++) {
            knows += "knows " + (char) ('a' + k / 6) + " " + (char) ('c' + k % 6) + ";";
        }
        sound(knows);
        faulty(knows + "knows z z;", 2, knows.length());
        String spites = knows;
        for (int k = 0; k < 8; k++) {
            spites += "spites " + (char) ('a' + k / 4) + " " + (char) ('c' + k % 4) + ";";
        }
        sound(spites);
        faulty(spites + "spites a g;", 2, spites.length());
        String pairs = spites;
        for (int k = 0; k < 5; k++) {
            pairs += "pair a " + (char) ('b' + k) + ";";
        }
        sound(pairs);
        faulty(pairs + "pair b c;", 2, pairs.length());
        faulty("hears 1;hears 1;", 2, 8);
        faulty("degree 1;degree 1;", 2, 9);
        faulty("calls 1;calls 1;", 2, 8);
        faulty("draw 1;draw 1;", 2, 7);
    }

    private static String many(String part, int times) {
        return part.repeat(times);
    }

    private static void formulas() {
        promise = 10;
        sound("hears " + many("(", 7) + "1" + many(")", 7) + ";");
        faulty("hears " + many("(", 8) + "1" + many(")", 8) + ";", 2, 13);
        sound("hears " + many("not ", 7) + "1;");
        faulty("hears " + many("not ", 8) + "1;", 2, 34);
        faulty("hears not " + many("(", 7) + "1", 2, 16);
        faulty("hears " + many("(", 7) + "not 1", 2, 13);
        faulty("hears not 1<" + many("(", 7) + "1", 2, 18);
        sound("hears (1)<" + many("(", 7) + "1" + many(")", 7) + ";");
        sound("hears 1" + many("+1", 29) + ";");
        faulty("hears 1" + many("+1", 30) + ";", 2, 66);
        sound("hears (1" + many("+1", 28) + ");");
        faulty("hears (1" + many("+1", 29) + ");", 2, 65);
        faulty("hears 1" + many("+1", 29) + "+(1);", 2, 66);
        due("about(12)", told("hears (1+2)*not 3;".replace("*not", "* ")).about(12), 4);
        String nots = many("not ", 7) + "1";
        ThreeSundays x = told("church c;person p in c;hears " + nots + many(" and " + nots, 29) + ";");
        due("hearing(0)", x.hearing(0), 0);
        faulty("hears ;", 2, 6);
        faulty("hears", 2, 5);
        faulty("hears 1+;", 2, 8);
        faulty("hears -1;", 2, 6);
        faulty("hears (1;", 2, 8);
        faulty("hears 1);", 2, 7);
        faulty("hears ();", 2, 7);
        faulty("hears 1 not 2;", 2, 8);
        faulty("hears 1+not 2;", 2, 8);
        faulty("hears 1<2>3;", 2, 9);
        faulty("hears 1 2;", 2, 8);
        faulty("hears c;", 2, 6);
        hears("sunday", 1);
        hears("read*4", 4);
        hears("seated*3", 6);
        hears("own+7", 8);
        hears("1+2*3", 7);
        hears("9-3-2", 4);
        hears("40/5/2", 4);
        hears("7%4*2", 6);
        hears("(1+2)*3", 9);
        hears("5/0", 0);
        hears("5%0", 0);
        hears("(0-7)/2+9", 6);
        hears("(0-7)%4+9", 6);
        hears("3<4", 1);
        hears("4<4", 0);
        hears("5>4", 1);
        hears("4>4", 0);
        hears("4=4", 1);
        hears("4=5", 0);
        hears("7 and 9", 1);
        hears("7 and 0", 0);
        hears("0 or 8", 1);
        hears("0 or 0", 0);
        hears("1 or 0 and 0", 1);
        hears("(1 or 0) and 0", 0);
        hears("not 5", 0);
        hears("not 0", 1);
        hears("not 3<2", 1);
        hears("not not 6", 1);
        hears("not 0 and 5", 1);
        hears("6", 6);
        hears("11", 10);
        hears("0-1", 0);
        hears("9999*9999*9999", 0);
        hears("9999*9999*9999<0", 1);
        hears("(4096*4096*128)/(0-1)<0", 1);
        hears("(4096*4096*128)%(0-1)+3", 3);
        due("hearing(2)", told("church c; church d; person a in c; person b in c; person f in d; pair a b;"
                + "hears read+seated*2+own*5;").hearing(2), 7);
    }

    private static void person() {
        promise = 6;
        ThreeSundays x = told(FAMILY);
        int[][] rows = {
            {0, 0, NONE, NONE, 0, 0, 0, NONE, 0b110, 0},
            {0, 0, 0, NONE, 0, 0, 0, NONE, 0b1001, 0},
            {1, 1, 0, NONE, 0, 0, 0, NONE, 0b10001, 0},
            {0, 0, 1, NONE, 0, 0, 0, NONE, 0b10, 0},
            {1, 1, 2, NONE, 0, 0, 0, NONE, 0b100, 0},
            {1, 1, NONE, NONE, 1, 0, 0, NONE, 0, 0},
            {0, 0, NONE, NONE, 0, 0, 0, NONE, 0b100000, 0b10000000},
            {1, 1, NONE, NONE, 0, 3, 0, NONE, 0b1000, 0}};
        for (int p = 0; p < rows.length; p++) {
            for (int what = 0; what < rows[p].length; what++) {
                due("person(" + p + ", " + what + ")", x.person(p, what), rows[p][what]);
            }
            due("person(" + p + ", 10)", x.person(p, 10), -2);
            due("person(" + p + ", -1)", x.person(p, -1), -2);
        }
        due("person(8, 0)", x.person(8, 0), -2);
        for (int p : WRONG) {
            due("person(" + p + ", 0)", x.person(p, 0), -2);
            due("person(0, " + p + ")", x.person(0, p), -2);
        }
        x.sit(7, 2);
        due("person(7, 0)", x.person(7, 0), 2);
        due("person(7, 1)", x.person(7, 1), 1);
        x.sunday();
        due("person(7, 6)", x.person(7, 6), 0);
        x.sunday();
        due("person(7, 6)", x.person(7, 6), 1);
        x.licence(2);
        due("person(6, 7)", x.person(6, 7), 7);
        due("person(7, 7)", x.person(7, 7), 6);
        x = told("church c;person a in c;person b in c;person d in c of b and a;knows a b;");
        due("person(2, 2)", x.person(2, 2), 1);
        due("person(2, 3)", x.person(2, 3), 0);
        due("person(0, 8)", x.person(0, 8), 0b110);
        due("person(1, 8)", x.person(1, 8), 0b100);
        due("person(2, 8)", x.person(2, 8), 0b011);
    }

    private static void pair() {
        promise = 7;
        ThreeSundays x = told(FAMILY);
        int[][] rows = {
            {3, 4, 0, 1, 0, 0, 1, 0b10000110, 1},
            {5, 7, 1, 1, 0, 0, 2, 0b01000000, 1},
            {6, 7, 0, 0, 0, 0, 0, 0, 1}};
        for (int k = 0; k < rows.length; k++) {
            for (int what = 0; what < rows[k].length; what++) {
                due("pair(" + k + ", " + what + ")", x.pair(k, what), rows[k][what]);
            }
            due("pair(" + k + ", 9)", x.pair(k, 9), NONE);
        }
        due("pair(3, 0)", x.pair(3, 0), NONE);
        for (int k : WRONG) {
            due("pair(" + k + ", 0)", x.pair(k, 0), NONE);
            due("pair(0, " + k + ")", x.pair(0, k), NONE);
        }
        x.licence(2);
        due("pair(2, 5)", x.pair(2, 5), 1);
        due("pair(2, 6)", x.pair(2, 6), 0);
        due("pair(2, 8)", x.pair(2, 8), 0);
        due("pair(1, 6)", x.pair(1, 6), 2);
        // A bar by a wedding makes those rise who know, and the bar of a pair is not its own wedding.
        x = told("church c;person a in c;person b in c;person d in c;person f in c;knows f d;pair a b;pair d a;");
        due("pair(1, 7)", x.pair(1, 7), 0);
        x.licence(0);
        due("pair(0, 6)", x.pair(0, 6), 0);
        due("pair(1, 6)", x.pair(1, 6), 3);
        due("pair(1, 7)", x.pair(1, 7), 0b1000);
        // One of the pair does not rise against it, though he spites and knows.
        x = told("church c;person a in c;person b in c of a;knows a b;spites a b;spites b a;pair a b;");
        due("pair(0, 6)", x.pair(0, 6), 1);
        due("pair(0, 7)", x.pair(0, 7), 0);
        // Calls run out church by church, in the order of the pairs; two alike count once.
        x = told("church c;church d;person a in c;person b in d;person f in c;person g in d;"
                + "pair a f;pair a b;pair f b;pair g b;calls 2;");
        due("pair(0, 8)", x.pair(0, 8), 1);
        due("pair(1, 8)", x.pair(1, 8), 1);
        due("pair(2, 8)", x.pair(2, 8), 0);
        due("pair(3, 8)", x.pair(3, 8), 1);
    }

    private static void degree() {
        promise = 8;
        ThreeSundays x = told(FAMILY);
        due("degree(3, 4)", x.degree(3, 4), 4);
        due("degree(4, 3)", x.degree(4, 3), 4);
        due("degree(3, 2)", x.degree(3, 2), 3);
        due("degree(1, 2)", x.degree(1, 2), 2);
        due("degree(3, 0)", x.degree(3, 0), 2);
        due("degree(1, 0)", x.degree(1, 0), 1);
        due("degree(5, 5)", x.degree(5, 5), 0);
        due("degree(5, 0)", x.degree(5, 0), NONE);
        due("degree(8, 0)", x.degree(8, 0), NONE);
        due("degree(8, 8)", x.degree(8, 8), NONE);
        for (int p : WRONG) {
            due("degree(0, " + p + ")", x.degree(0, p), NONE);
            due("degree(" + p + ", 0)", x.degree(p, 0), NONE);
        }
        // The nearer of two ways counts, and so does one that is no straight line.
        x = told("church c;person a in c;person b in c of a;person d in c of b;person e in c of d and a;person f in c of e and d;");
        due("degree(3, 0)", x.degree(3, 0), 1);
        due("degree(4, 0)", x.degree(4, 0), 2);
        due("degree(4, 1)", x.degree(4, 1), 2);
        due("degree(3, 4)", x.degree(3, 4), 1);
        due("degree(3, 1)", x.degree(3, 1), 2);
    }

    private static void ancestors() {
        promise = 9;
        ThreeSundays x = told(FAMILY);
        int[] want = {0b1, 0b11, 0b101, 0b1011, 0b10101, 0b100000, 0b1000000, 0b10000000, NONE};
        for (int p = 0; p < want.length; p++) {
            due("ancestors(" + p + ")", x.ancestors(p), want[p]);
        }
        for (int p : WRONG) {
            due("ancestors(" + p + ")", x.ancestors(p), NONE);
        }
    }

    private static void hearing() {
        promise = 10;
        ThreeSundays x = told("church c;church d;person a in c;person b in c;person f in d sails 2;"
                + "pair a b;hears seated+own*3+sunday;");
        due("hearing(0)", x.hearing(0), 6);
        due("hearing(2)", x.hearing(2), 5);
        x.sit(0, 1);
        due("hearing(0)", x.hearing(0), 3);
        due("hearing(2)", x.hearing(2), 6);
        x.sunday();
        due("hearing(0)", x.hearing(0), 3);
        due("hearing(2)", x.hearing(2), 6);
        due("hearing(3)", x.hearing(3), NONE);
        for (int p : WRONG) {
            due("hearing(" + p + ")", x.hearing(p), NONE);
        }
        due("hearing(0)", told("church c;person a in c;").hearing(0), 10);
        // What is read is what is called: not what calls leave over, and two churches alike are one.
        x = told("church c;person a in c;person b in c;person d in c;pair a b;pair a d;pair b d;calls 2;hears read*3;");
        due("hearing(0)", x.hearing(0), 6);
    }

    private static void church() {
        promise = 11;
        ThreeSundays x = told(FAMILY);
        due("church(0, 0)", x.church(0, 0), 0b01001011);
        due("church(1, 0)", x.church(1, 0), 0b10110100);
        due("church(2, 0)", x.church(2, 0), 0);
        due("church(0, 1)", x.church(0, 1), 0b101);
        due("church(1, 1)", x.church(1, 1), 0b011);
        due("church(2, 1)", x.church(2, 1), 0);
        due("church(3, 0)", x.church(3, 0), NONE);
        due("church(0, 2)", x.church(0, 2), NONE);
        for (int c : WRONG) {
            due("church(" + c + ", 0)", x.church(c, 0), NONE);
            due("church(0, " + c + ")", x.church(0, c), NONE);
        }
        x.sunday();
        x.sunday();
        due("church(1, 0) with one away", x.church(1, 0), 0b10110100);
        due("church(1, 1) with one away", x.church(1, 1), 0);
    }

    private static void sit() {
        promise = 12;
        ThreeSundays x = told(FAMILY);
        due("sit(0, 0)", x.sit(0, 0), NONE);
        due("sit(0, 3)", x.sit(0, 3), NONE);
        due("sit(8, 0)", x.sit(8, 0), NONE);
        for (int p : WRONG) {
            due("sit(" + p + ", 0)", x.sit(p, 0), NONE);
            due("sit(0, " + p + ")", x.sit(0, p), NONE);
        }
        due("about(7)", x.about(7), 0);
        due("sit(0, 2)", x.sit(0, 2), 0);
        due("sit(0, 1)", x.sit(0, 1), 2);
        due("person(0, 0)", x.person(0, 0), 1);
        due("about(7)", x.about(7), 2);
        due("pair(0, 2)", x.pair(0, 2), 0);
    }

    private static void move() {
        promise = 13;
        ThreeSundays x = told(FAMILY);
        due("move(0, 3, 0)", x.move(0, 3, 0), NONE);
        due("move(0, 0, 3)", x.move(0, 0, 3), NONE);
        due("move(3, 0, 0)", x.move(3, 0, 0), NONE);
        for (int p : WRONG) {
            due("move(" + p + ", 0, 0)", x.move(p, 0, 0), NONE);
            due("move(0, " + p + ", 0)", x.move(0, p, 0), NONE);
            due("move(0, 0, " + p + ")", x.move(0, 0, p), NONE);
        }
        due("about(7)", x.about(7), 0);
        due("move(1, 2, 0)", x.move(1, 2, 0), 0);
        due("pair(1, 2)", x.pair(1, 2), 2);
        due("pair(1, 3)", x.pair(1, 3), 0);
        due("move(1, 2, 0) again", x.move(1, 2, 0), 0);
        due("about(7)", x.about(7), 2);
        x.move(1, 2, 2);
        x.sunday();
        due("move(1, 1, 1)", x.move(1, 1, 1), 1);
        due("pair(0, 5)", x.pair(0, 5), 2);
        due("move(0, 1, 1)", x.move(0, 1, 1), NONE);
        x.licence(2);
        due("move(2, 1, 1)", x.move(2, 1, 1), NONE);
        due("about(7)", x.about(7), 6);
    }

    private static void licence() {
        promise = 14;
        ThreeSundays x = told(FAMILY);
        due("licence(0)", x.licence(0), false);
        due("licence(1)", x.licence(1), false);
        due("licence(3)", x.licence(3), false);
        for (int p : WRONG) {
            due("licence(" + p + ")", x.licence(p), false);
        }
        due("about(7)", x.about(7), 0);
        due("licence(2)", x.licence(2), true);
        due("pair(2, 5)", x.pair(2, 5), 1);
        due("pair(2, 4)", x.pair(2, 4), 0);
        due("about(5)", x.about(5), 4);
        due("licence(2)", x.licence(2), false);
        due("about(7)", x.about(7), 1);
        x = told("church c;person a in c;person b in c;person d in c;pair a b;pair a d;");
        due("licence(0)", x.licence(0), true);
        due("licence(1)", x.licence(1), false);
        // Who is away may be given a licence all the same.
        x = told("church c;person a in c sails 1;person b in c;pair a b;");
        due("licence(0)", x.licence(0), true);
    }

    private static void sunday() {
        promise = 15;
        ThreeSundays x = told(FAMILY);
        due("sunday()", x.sunday(), 0);
        due("about(3)", x.about(3), 1);
        due("about(4)", x.about(4), 304);
        due("about(6)", x.about(6), 1);
        due("pair(0, 4)", x.pair(0, 4), 0);
        due("pair(1, 4)", x.pair(1, 4), 1);
        due("pair(2, 4)", x.pair(2, 4), 1);
        x.sunday();
        due("pair(2, 4)", x.pair(2, 4), 2);
        due("sunday() with one away", x.sunday(), 0);
        due("pair(2, 4)", x.pair(2, 4), 2);
        due("pair(2, 5)", x.pair(2, 5), 0);
        due("about(4)", x.about(4), 304);
        // Wed at the third reading; a pair of one who is wed stays open and is read on.
        x = told("church c;person a in c;person b in c;person d in c;pair a b;pair d a;pair d b;calls 3;");
        x.sunday();
        x.sunday();
        due("sunday()", x.sunday(), 1);
        due("about(5)", x.about(5), 1);
        due("pair(1, 5)", x.pair(1, 5), 0);
        due("pair(1, 4)", x.pair(1, 4), 3);
        due("sunday()", x.sunday(), 0);
        due("pair(1, 4)", x.pair(1, 4), 4);
        due("about(4)", x.about(4), 0);
        // Draws: 0 -> 71 (1), 798 (8), 397 (7), 460 (0), each by one who would rise and sits there, as they come.
        x = told("church c;church d;person a in c;person b in c;person f in c;person g in d;person h in c;person i in c sails 1;"
                + "spites f a;spites g a;spites h b;spites i b;pair a b;hears 1;");
        due("sunday()", x.sunday(), 0);
        due("about(4)", x.about(4), 798);
        due("pair(0, 4)", x.pair(0, 4), 1);
        x.sunday();
        due("about(4)", x.about(4), 460);
        due("pair(0, 5)", x.pair(0, 5), 2);
        due("pair(0, 4)", x.pair(0, 4), 1);
        drawsEnd();
        weddingBarsTheNext();
        lastSunday();
    }

    // Behind 999 Sundays there is none, but looks ahead go on; that many calls are more than an object is promised for.
    private static void lastSunday() {
        ThreeSundays x = told("church c;person a in c;person b in c;person d in c;person f in c;spites f d;"
                + "pair a b;pair a d;hears (sunday>1001)*10;");
        for (int k = 1; k <= 999; k++) {
            due("sunday() " + k, x.sunday(), k == 3 ? 1 : 0);
        }
        due("sunday() behind 999", x.sunday(), NONE);
        due("about(3)", x.about(3), 999);
        due("about(7)", x.about(7), 40);
        due("will(1, 2, 1)", x.will(1, 2, 1), 1001);
        due("will(1, 3, 0)", x.will(1, 3, 0), 2);
        due("settles(1)", x.settles(1), 3);
    }

    // Whoever rises first leaves the others without a draw, and a rest alike to the hearing is not less.
    private static void drawsEnd() {
        String town = "church c;person a in c;person b in c;person f in c;person g in c;spites f a;spites g b;pair a b;";
        ThreeSundays x = told(town + "hears 2;");
        x.sunday();
        due("about(4)", x.about(4), 71);
        due("about(6)", x.about(6), 1);
        x = told(town + "hears 1;");
        x.sunday();
        due("about(4)", x.about(4), 798);
        due("about(6)", x.about(6), 0);
        x = told(town + "hears 0;");
        x.sunday();
        due("about(4)", x.about(4), 798);
    }

    // A wedding of the same Sunday bars the pairs behind it, so that those rise who know them.
    private static void weddingBarsTheNext() {
        ThreeSundays x = told("church c;person a in c;person b in c;person d in c;person k in c;knows k d;pair a b;pair a d;");
        x.sunday();
        x.sunday();
        due("about(6)", x.about(6), 0);
        due("sunday()", x.sunday(), 1);
        due("about(6)", x.about(6), 2);
        due("about(4)", x.about(4), 71);
    }

    private static void undo() {
        promise = 16;
        ThreeSundays x = told(FAMILY);
        due("undo()", x.undo(), false);
        x.sit(0, 1);
        x.move(0, 2, 2);
        x.licence(2);
        x.sunday();
        due("undo()", x.undo(), true);
        due("about(3)", x.about(3), 0);
        due("about(4)", x.about(4), 9);
        due("pair(1, 4)", x.pair(1, 4), 0);
        due("pair(2, 5)", x.pair(2, 5), 1);
        due("undo()", x.undo(), true);
        due("pair(2, 5)", x.pair(2, 5), 0);
        due("pair(0, 2)", x.pair(0, 2), 2);
        due("undo()", x.undo(), true);
        due("pair(0, 2)", x.pair(0, 2), 0);
        due("person(0, 0)", x.person(0, 0), 1);
        due("undo()", x.undo(), true);
        due("person(0, 0)", x.person(0, 0), 0);
        due("undo()", x.undo(), false);
        x = new ThreeSundays();
        for (int k = 0; k < 45; k++) {
            x.sunday();
        }
        x.image(0);
        x.back(0);
        x.sunday();
        due("undo()", x.undo(), true);
        due("about(3)", x.about(3), 45);
        x = new ThreeSundays();
        for (int k = 0; k < 45; k++) {
            x.sunday();
        }
        due("about(7)", x.about(7), 40);
        for (int k = 0; k < 40; k++) {
            due("undo()", x.undo(), true);
        }
        due("undo()", x.undo(), false);
        due("about(3)", x.about(3), 5);
        due("about(8)", x.about(8), 40);
    }

    private static void redo() {
        promise = 17;
        ThreeSundays x = told(FAMILY);
        due("redo()", x.redo(), false);
        x.sit(0, 1);
        x.sunday();
        due("redo()", x.redo(), false);
        x.undo();
        x.undo();
        due("about(8)", x.about(8), 2);
        due("redo()", x.redo(), true);
        due("person(0, 0)", x.person(0, 0), 1);
        due("about(3)", x.about(3), 0);
        due("redo()", x.redo(), true);
        due("about(3)", x.about(3), 1);
        due("about(4)", x.about(4), 304);
        due("redo()", x.redo(), false);
        x.undo();
        due("sit of the same", x.sit(0, 1), NONE);
        due("about(8)", x.about(8), 1);
        x.sit(0, 2);
        due("about(8)", x.about(8), 0);
        due("redo()", x.redo(), false);
        x = new ThreeSundays();
        for (int k = 0; k < 60; k++) {
            x.sunday();
        }
        for (int k = 0; k < 40; k++) {
            x.undo();
        }
        for (int k = 0; k < 40; k++) {
            due("redo()", x.redo(), true);
            due("about(3)", x.about(3), 21 + k);
        }
        due("redo()", x.redo(), false);
    }

    private static final String SPITEFUL = "church c;church d;church e;person a in c;person b in d;person f in c;person g in d;person h in e;"
            + "person i in d sails 2;spites f a;spites g a;spites h b;spites i b;pair a b;pair f g;";

    private static void quiet() {
        promise = 18;
        ThreeSundays x = told(SPITEFUL + "hears own*4+1;");
        due("quiet(0, 0, 0, 0)", x.quiet(0, 0, 0, 0), 1);
        due("quiet(0, 0, 0, 1)", x.quiet(0, 0, 0, 1), 2);
        due("quiet(0, 0, 1, 0)", x.quiet(0, 0, 1, 0), 1);
        due("quiet(0, 0, 1, 1)", x.quiet(0, 0, 1, 1), 8);
        due("quiet(0, 1, 1, 1)", x.quiet(0, 1, 1, 1), 4);
        x.sit(5, 0);
        due("quiet(0, 0, 0, 0)", x.quiet(0, 0, 0, 0), 9);
        due("quiet(0, 0, 0, 1)", x.quiet(0, 0, 0, 1), 20);
        x.undo();
        x.sunday();
        due("about(6) by a seed of 71", x.about(6), 1);
        due("quiet of one void", x.quiet(0, 0, 0, 0), NONE);
        x.undo();
        due("quiet(1, 0, 1, 0)", x.quiet(1, 0, 1, 0), 1);
        due("quiet(1, 0, 1, 1)", x.quiet(1, 0, 1, 1), 1);
        due("quiet(0, 0, 0, 2)", x.quiet(0, 0, 0, 2), NONE);
        due("quiet(0, 3, 0, 0)", x.quiet(0, 3, 0, 0), NONE);
        due("quiet(0, 0, 3, 0)", x.quiet(0, 0, 3, 0), NONE);
        due("quiet(2, 0, 0, 0)", x.quiet(2, 0, 0, 0), NONE);
        for (int p : WRONG) {
            due("quiet(" + p + ", 0, 0, 0)", x.quiet(p, 0, 0, 0), NONE);
            due("quiet(0, " + p + ", 0, 0)", x.quiet(0, p, 0, 0), NONE);
            due("quiet(0, 0, " + p + ", 0)", x.quiet(0, 0, p, 0), NONE);
            due("quiet(0, 0, 0, " + p + ")", x.quiet(0, 0, 0, p), NONE);
        }
        x = told(SPITEFUL);
        due("quiet(0, 0, 0, 0)", x.quiet(0, 0, 0, 0), 0);
        due("quiet(0, 0, 0, 1)", x.quiet(0, 0, 0, 1), 1);
        // Hearings go by what is read as things are, not as if the pair were read there.
        x = told(SPITEFUL + "hears read;");
        due("quiet(0, 2, 2, 0)", x.quiet(0, 2, 2, 0), 1);
        due("quiet(0, 2, 2, 1)", x.quiet(0, 2, 2, 1), 1);
        due("quiet(0, 0, 2, 0)", x.quiet(0, 0, 2, 0), 4);
        due("quiet(0, 0, 2, 1)", x.quiet(0, 0, 2, 1), 5);
    }

    private static void quietest() {
        promise = 19;
        ThreeSundays x = told(SPITEFUL + "hears own*4+1;");
        due("quietest(0, 0)", x.quietest(0, 0), 0);
        due("quietest(0, 1)", x.quietest(0, 1), 0);
        x.sit(2, 2);
        due("quietest(0, 0)", x.quietest(0, 0), 0);
        due("quietest(0, 1)", x.quietest(0, 1), 0);
        x.sit(4, 0);
        x.sit(3, 0);
        due("quietest(0, 0)", x.quietest(0, 0), 2);
        due("quietest(0, 1)", x.quietest(0, 1), 2);
        due("quietest(1, 0)", x.quietest(1, 0), 0);
        due("quietest(1, 1)", x.quietest(1, 1), 0);
        due("quietest(0, 2)", x.quietest(0, 2), NONE);
        due("quietest(2, 0)", x.quietest(2, 0), NONE);
        for (int p : WRONG) {
            due("quietest(" + p + ", 0)", x.quietest(p, 0), NONE);
            due("quietest(0, " + p + ")", x.quietest(0, p), NONE);
        }
        x.licence(1);
        due("quietest(1, 0)", x.quietest(1, 0), NONE);
        x = told("church c;church d;person a in c;person b in c;person f in c;spites f a;pair a b;");
        due("quietest(0, 0)", x.quietest(0, 0), 1);
        due("quietest(0, 1)", x.quietest(0, 1), 1);
    }

    private static void hush() {
        promise = 20;
        ThreeSundays x = told(SPITEFUL + "hears own*4+1;");
        due("hush(0, 0)", x.hush(0, 0), 3);
        due("hush(0, 1)", x.hush(0, 1), 0b101100);
        due("hush(1, 0)", x.hush(1, 0), 0);
        due("hush(1, 1)", x.hush(1, 1), 0);
        x.move(0, 2, 2);
        due("hush(0, 1)", x.hush(0, 1), 0b10000);
        due("hush(0, 2)", x.hush(0, 2), NONE);
        due("hush(2, 0)", x.hush(2, 0), NONE);
        for (int p : WRONG) {
            due("hush(" + p + ", 0)", x.hush(p, 0), NONE);
            due("hush(0, " + p + ")", x.hush(0, p), NONE);
        }
        x.licence(0);
        due("hush(0, 0)", x.hush(0, 0), NONE);
        x = told(SPITEFUL + "hears sunday>1 and own;");
        due("hush(0, 0)", x.hush(0, 0), 0);
        x.sunday();
        due("hush(0, 1) with one away", x.hush(0, 1), 0b001100);
    }

    private static void will() {
        promise = 21;
        ThreeSundays x = told(FAMILY);
        due("will(0, 0, 0)", x.will(0, 0, 0), 0);
        due("will(0, 1, 0)", x.will(0, 1, 0), 2);
        due("will(1, 60, 0)", x.will(1, 60, 0), 0);
        due("will(1, 60, 1)", x.will(1, 60, 1), 2);
        due("will(1, 1, 1)", x.will(1, 1, 1), 1);
        due("will(1, 61, 0)", x.will(1, 61, 0), NONE);
        due("will(1, 1, 2)", x.will(1, 1, 2), NONE);
        due("will(3, 1, 0)", x.will(3, 1, 0), NONE);
        for (int p : WRONG) {
            due("will(" + p + ", 0, 0)", x.will(p, 0, 0), NONE);
            due("will(0, " + p + ", 0)", x.will(0, p, 0), NONE);
            due("will(0, 0, " + p + ")", x.will(0, 0, p), NONE);
        }
        due("about(3)", x.about(3), 0);
        due("about(4)", x.about(4), 9);
        due("about(7)", x.about(7), 0);
        x.licence(2);
        due("will(2, 60, 0)", x.will(2, 60, 0), 1);
        due("will(2, 60, 1)", x.will(2, 60, 1), 0);
        x = told("church c;person a in c;person b in c;person d in c;pair a b;pair a d;calls 1;");
        due("will(0, 2, 0)", x.will(0, 2, 0), 0);
        due("will(0, 3, 0)", x.will(0, 3, 0), 1);
        due("will(1, 60, 1)", x.will(1, 60, 1), 57);
    }

    private static void settles() {
        promise = 22;
        ThreeSundays x = told(FAMILY);
        due("settles(0)", x.settles(0), 1);
        due("settles(1)", x.settles(1), NONE);
        due("settles(3)", x.settles(3), NONE);
        for (int p : WRONG) {
            due("settles(" + p + ")", x.settles(p), NONE);
        }
        due("about(3)", x.about(3), 0);
        x.licence(2);
        due("settles(2)", x.settles(2), 0);
        x.sunday();
        due("settles(0)", x.settles(0), 0);
        // Heard only from the 60th Sunday on, or the 61st: the farthest look ahead is 60.
        String town = "church c;person a in c vow;person b in c;person f in c;spites f a;pair a b;person v in c;knows v b;";
        x = told("church c;person a in c;person b in c;person d in c;person f in c;spites f d;pair a b;pair a d;hears (sunday>59)*10;");
        due("settles(1)", x.settles(1), 60);
        x = told("church c;person a in c;person b in c;person d in c;person f in c;spites f d;pair a b;pair a d;hears (sunday>60)*10;");
        due("settles(1)", x.settles(1), NONE);
        x.sunday();
        due("settles(1)", x.settles(1), 60);
        due("will(1, 59, 0)", x.will(1, 59, 0), 0);
        due("will(1, 60, 0)", x.will(1, 60, 0), 2);
        due("settles(0)", told(town).settles(0), 1);
    }

    private static void season() {
        promise = 23;
        ThreeSundays x = told(FAMILY);
        due("season(0)", x.season(0), 1);
        due("season(1)", x.season(1), 1);
        due("season(2)", x.season(2), NONE);
        for (int p : WRONG) {
            due("season(" + p + ")", x.season(p), NONE);
        }
        String five = "church c;church d;person a in c;person b in c;person f in c;person g in c;person h in d;person i in d;";
        x = told(five + "pair a b;pair a f;pair a g;pair b f;pair b g;calls 1;");
        due("season(0)", x.season(0), 4);
        due("season(1) is the least", x.season(1), 0b01111);
        x.sunday();
        due("season(0) goes on", x.season(0), 4);
        x.sunday();
        due("season(0) with thirteen readings due", x.season(0), 4);
        due("season(1) with thirteen readings due", x.season(1), 0b01111);
        x.sunday();
        due("season(1) without the wed", x.season(1), 0b11110);
        x = told(five + "pair a b;pair h i;pair a h;calls 1;");
        due("season(0)", x.season(0), 3);
        // The same pairs in two churches, and then all in one.
        x = told(five + "pair a b at c c;pair a f at c c;pair a g at c c;pair b f at d d;pair b g at d d;calls 1;");
        due("season(0)", x.season(0), 5);
        x.move(3, 0, 0);
        due("season(0)", x.season(0), 5);
        x.move(4, 0, 1);
        due("season(0)", x.season(0), 4);
        due("season(1)", x.season(1), 0b01111);
        // Three Sundays are ahead of a sailing on the fourth, two ahead of one on the third.
        x = told("church c;person a in c sails 4;person b in c;person f in c;pair a b;pair b f;pair a f;calls 1;");
        due("season(0)", x.season(0), 2);
        due("season(1)", x.season(1), 0b011);
        x.move(0, 0, 0);
        x.sunday();
        due("season(1) on its way", x.season(1), 0b011);
        x = told("church c;person a in c sails 3;person b in c;pair a b;");
        due("season(0)", x.season(0), 0);
        x = told("church c;church d;person a in c sails 4;person b in c;person f in c sails 7;person g in d;"
                + "pair b g;pair f g at d d;pair a b at c c;calls 1;");
        due("season(1) out of turn", x.season(1), 0b111);
        // One that was read three times and is open still needs no more.
        x = told("church c;person a in c;person b in c;person d in c sails 4;pair a b;pair a d;");
        x.sunday();
        x.sunday();
        x.sunday();
        due("pair(1, 5)", x.pair(1, 5), 0);
        due("season(1)", x.season(1), 0b10);
    }

    private static void law() {
        promise = 24;
        ThreeSundays x = told("church c;person a in c;person b in c of a;person d in c of a;person f in c of b;person g in c of d;person h in c;"
                + "pair a b;pair b d;pair f d;pair f g;pair a h;degree 2;");
        int[] want = {-2, -1, 0, 1, 2, 2, 2, 2, 2};
        for (int d = 0; d <= 8; d++) {
            due("law(" + d + ")", x.law(d), want[d]);
        }
        due("law(9)", x.law(9), -100);
        for (int d : WRONG) {
            due("law(" + d + ")", x.law(d), -100);
        }
        x.sunday();
        due("about(6)", x.about(6), 0b00011);
        due("law(0)", x.law(0), 0);
        due("law(8)", x.law(8), 2);
    }

    private static void free() {
        promise = 25;
        ThreeSundays x = told(FAMILY);
        due("free()", x.free(), 11);
        x.licence(2);
        due("free()", x.free(), 0);
        x = told("church c;person a in c;person b in c;person d in c;person f in c of a;degree 0;");
        due("free()", x.free(), 6);
        x = told("church c;person a in c;person b in c;person d in c;person f in c of a;pair a b;");
        due("free()", x.free(), 5);
        x.licence(0);
        due("free()", x.free(), 1);
    }

    private static void sits() {
        promise = 26;
        ThreeSundays x = told(FAMILY);
        due("sits(3, true)", x.sits(3, true), NONE);
        for (int c : WRONG) {
            due("sits(" + c + ", true)", x.sits(c, true), NONE);
        }
        due("about(9)", x.about(9), 0);
        due("sits(0, true)", x.sits(0, true), 0);
        due("meant(0)", x.meant(0), 0b01001011);
        due("sits(1, false)", x.sits(1, false), 1);
        x.sit(0, 1);
        due("meant(0)", x.meant(0), 0b01001010);
        x.sit(2, 2);
        x.untell(0);
        due("meant(0)", x.meant(0), 0b01001110);
        for (int k = 2; k < 30; k++) {
            due("sits(0, true)", x.sits(0, true), k);
        }
        due("sits beyond", x.sits(0, true), NONE);
        due("about(9)", x.about(9), 30);
    }

    private static void knew() {
        promise = 27;
        ThreeSundays x = told(FAMILY);
        due("knew(8, true)", x.knew(8, true), NONE);
        for (int p : WRONG) {
            due("knew(" + p + ", true)", x.knew(p, true), NONE);
        }
        due("about(9)", x.about(9), 0);
        due("knew(3, true)", x.knew(3, true), 0);
        due("meant(0)", x.meant(0), 0b10000010);
        due("knew(0, false)", x.knew(0, false), 1);
        due("meant(0)", x.meant(0), 0b10000000);
        for (int k = 2; k < 30; k++) {
            due("knew(0, true)", x.knew(0, true), k);
        }
        due("knew beyond", x.knew(0, true), NONE);
    }

    private static void kin() {
        promise = 28;
        ThreeSundays x = told(FAMILY);
        due("kin(8, 0, true)", x.kin(8, 0, true), NONE);
        due("kin(0, 9, true)", x.kin(0, 9, true), NONE);
        for (int p : WRONG) {
            due("kin(" + p + ", 0, true)", x.kin(p, 0, true), NONE);
            due("kin(0, " + p + ", true)", x.kin(0, p, true), NONE);
        }
        due("about(9)", x.about(9), 0);
        due("kin(3, 3, true)", x.kin(3, 3, true), 0);
        due("meant(0)", x.meant(0), 0b00001111);
        due("kin(3, 0, false)", x.kin(3, 0, false), 1);
        due("meant(0)", x.meant(0), 0b00000111);
        due("kin(2, 8, false)", x.kin(2, 8, false), 2);
        due("meant(0)", x.meant(0), 0);
        for (int k = 3; k < 30; k++) {
            due("kin(0, 8, true)", x.kin(0, 8, true), k);
        }
        due("kin beyond", x.kin(0, 8, true), NONE);
    }

    private static void untell() {
        promise = 29;
        ThreeSundays x = told(FAMILY);
        due("untell(0)", x.untell(0), false);
        x.sits(0, true);
        for (int p : WRONG) {
            due("untell(" + p + ")", x.untell(p), false);
        }
        due("untell(1)", x.untell(1), false);
        x.later(2);
        due("untell(0)", x.untell(0), true);
        due("untell(0)", x.untell(0), false);
        due("about(9)", x.about(9), 1);
        due("meant(1)", x.meant(1), 0b01001011);
        due("meant(2)", x.meant(2), 255);
        due("sits(1, true)", x.sits(1, true), 1);
        due("untell(1)", x.untell(1), true);
        due("meant(2)", x.meant(2), 255);
        for (int k = 2; k < 30; k++) {
            x.sits(0, true);
            x.untell(k);
        }
        due("sits beyond, though all is untold", x.sits(0, true), NONE);
    }

    private static void later() {
        promise = 30;
        ThreeSundays x = new ThreeSundays();
        due("later(0)", x.later(0), 0);
        due("later(1000)", x.later(1000), 1000);
        due("later(1001)", x.later(1001), NONE);
        for (int p : new int[] {-1, Integer.MIN_VALUE, Integer.MAX_VALUE}) {
            due("later(" + p + ")", x.later(p), NONE);
        }
        for (int k = 2; k <= 99; k++) {
            due("later(1000)", x.later(1000), 1000 * k);
        }
        due("later(999)", x.later(999), 99999);
        due("later(2)", x.later(2), NONE);
        due("about(10)", x.about(10), 99999);
        due("later(1)", x.later(1), 100000);
        due("later(1)", x.later(1), NONE);
        due("later(0)", x.later(0), 100000);
    }

    private static void meant() {
        promise = 31;
        ThreeSundays x = told(FAMILY);
        due("meant(0)", x.meant(0), 255);
        x.later(3);
        x.sits(1, true);
        x.later(4);
        x.untell(0);
        due("meant(2)", x.meant(2), 255);
        due("meant(3)", x.meant(3), 0b10110100);
        due("meant(6)", x.meant(6), 0b10110100);
        due("meant(7)", x.meant(7), 255);
        due("meant(-1)", x.meant(Integer.MIN_VALUE), 255);
        x.sits(0, true);
        due("meant(7)", x.meant(7), 0b01001011);
        due("meant(most)", x.meant(Integer.MAX_VALUE), 0b01001011);
        x.sit(3, 2);
        due("meant(7) as it is now", x.meant(7), 0b01000011);
        due("meant(5) as it is now", x.meant(5), 0b10110100);
    }

    private static void ask() {
        promise = 32;
        ThreeSundays x = told(FAMILY);
        due("ask(0, 0)", x.ask(0, 0), 0);
        due("ask(1, 0)", x.ask(1, 0), 6);
        x.sits(0, true);
        due("ask(0, 0)", x.ask(0, 0), 1);
        due("ask(1, 0)", x.ask(1, 0), 2);
        due("ask(0, -1)", x.ask(0, -1), 0);
        x.knew(3, true);
        due("ask(0, 0)", x.ask(0, 0), 0);
        due("ask(1, 0)", x.ask(1, 0), 1);
        for (int p : WRONG) {
            due("ask(" + p + ", 0)", x.ask(p, 0), NONE);
        }
        due("ask(2, 0)", x.ask(2, 0), NONE);
        x.knew(4, true);
        due("ask(0, 0)", x.ask(0, 0), NONE);
        due("ask(1, 0)", x.ask(1, 0), NONE);
    }

    private static void image() {
        promise = 33;
        ThreeSundays x = told(FAMILY);
        due("image(3)", x.image(3), NONE);
        for (int p : WRONG) {
            due("image(" + p + ")", x.image(p), NONE);
        }
        due("image(0)", x.image(0), 0);
        x.sunday();
        due("image(2)", x.image(2), 1);
        due("about(7)", x.about(7), 1);
        x.sunday();
        due("image(0)", x.image(0), 2);
        due("back(2)", x.back(2), 1);
        due("back(0)", x.back(0), 2);
    }

    private static void back() {
        promise = 34;
        ThreeSundays x = told(FAMILY);
        due("back(0)", x.back(0), NONE);
        for (int p : WRONG) {
            due("back(" + p + ")", x.back(p), NONE);
        }
        due("back(3)", x.back(3), NONE);
        x.sit(1, 2);
        x.move(1, 2, 1);
        x.sunday();
        x.image(1);
        x.licence(2);
        x.sit(1, 0);
        x.move(1, 0, 0);
        x.sunday();
        x.undo();
        due("back(0)", x.back(0), NONE);
        due("about(7)", x.about(7), 6);
        due("back(1)", x.back(1), 1);
        due("about(7)", x.about(7), 0);
        due("about(8)", x.about(8), 0);
        due("about(3)", x.about(3), 1);
        due("about(4)", x.about(4), 304);
        due("about(5)", x.about(5), 0);
        due("about(6)", x.about(6), 1);
        due("person(1, 0)", x.person(1, 0), 2);
        due("pair(1, 2)", x.pair(1, 2), 2);
        due("pair(1, 3)", x.pair(1, 3), 1);
        due("pair(1, 4)", x.pair(1, 4), 1);
        due("pair(2, 5)", x.pair(2, 5), 0);
        due("undo()", x.undo(), false);
        due("redo()", x.redo(), false);
        x.sunday();
        due("back(1)", x.back(1), 1);
    }

    private static void about() {
        promise = 35;
        ThreeSundays x = told(FAMILY + "hears (1+2)*own+9;");
        x.sunday();
        x.licence(2);
        x.sit(0, 1);
        x.undo();
        x.sits(0, true);
        x.knew(0, true);
        x.untell(0);
        x.later(17);
        x.feed(1, 2, 3, 4, 5);
        int[] want = {8, 3, 3, 1, 304, 4, 1, 2, 1, 2, 17, 20, 5};
        for (int what = 0; what < want.length; what++) {
            due("about(" + what + ")", x.about(what), want[what]);
        }
        due("about(13)", x.about(13), NONE);
        for (int what : WRONG) {
            due("about(" + what + ")", x.about(what), NONE);
        }
    }
}
