import java.util.List;

/** Promises 1 to 5 and the text of a town: each sentence that names a bound, by a new object that comes to it. */
public final class TownBoundaryTest {
    private static final int NONE = ThreeSundays.NONE;
    private static final int LEAST = Integer.MIN_VALUE;
    private static final int MOST = Integer.MAX_VALUE;
    private static final int BLANKS = 0x20202020;
    private static final String TWO = "church c;person p in c;person q in c;";
    private static final String EIGHT = "church c;person a in c;person b in c;person d in c;person f in c;"
            + "person g in c;person h in c;person i in c;person j in c;";
    private static final String LETTERS = "abdfghij";
    private static final String WORDS = "church person in of and vow sails knows spites pair at hears degree calls draw"
            + " or not sunday read seated own";

    public static void main(String[] args) {
        emptyTown();
        feeding();
        ending();
        textLength();
        everyByte();
        words();
        numbers();
        blanks();
        longestTokens();
        letterBehindNumber();
        namesAndWords();
        sortsAtMost();
        persons();
        knowsAndSpites();
        pairs();
        numberedAsTold();
        settings();
        settingsAtWork();
        units();
        nesting();
        firstFault();
        cutLines();
        linesEndedTooEarly();
        faultsOfEachKind();
        townIsTold();
        townWithFault();
        faultAnswers();
        Ledger.close(1, 2, 3, 4, 5);
    }

    private static void faulty(String text, int kind, int place) {
        Probe x = new Probe();
        x.put(text);
        int answer = x.town();
        if (answer != NONE || x.fault(0) != kind || x.fault(1) != place) {
            Ledger.complain("town() of '" + text + "' answered " + answer + " with fault " + x.fault(0) + " at " + x.fault(1)
                    + ", due is fault " + kind + " at " + place);
        }
        if (x.about(0) + x.about(1) + x.about(2) + x.about(12) != 0) {
            Ledger.complain("the faulty '" + text + "' is a town");
        }
    }

    private static Probe sound(String text) {
        Probe x = Probe.of(text);
        Ledger.due(x.fault(0), 0);
        Ledger.due(x.fault(1), NONE);
        return x;
    }

    private static String many(String part, int times) {
        return part.repeat(times);
    }

    // ------------------------------------------------------------------ promises 1 to 3

    private static void emptyTown() {
        Ledger.sentence(1, "The constants: `NONE = -1`: There is none.");
        Ledger.due(ThreeSundays.NONE, -1);

        Ledger.sentence(1, "`ThreeSundays()`: An empty TOWN.");
        Probe x = new Probe();
        for (int what = 0; what <= 12; what++) {
            Ledger.due(x.about(what), 0);
        }
        Ledger.due(x.fault(0), 0);
        Ledger.due(x.fault(1), NONE);
        for (int what = 0; what <= 9; what++) {
            Ledger.due(x.person(0, what), -2);
            Ledger.due(x.pair(0, what), NONE);
        }
        Ledger.due(x.degree(0, 0), NONE);
        Ledger.due(x.ancestors(0), NONE);
        Ledger.due(x.hearing(0), NONE);
        Ledger.due(x.church(0, 0), NONE);
        Ledger.due(x.church(0, 1), NONE);
        Ledger.due(x.sit(0, 0), NONE);
        Ledger.due(x.move(0, 0, 0), NONE);
        Ledger.due(x.licence(0), false);
        Ledger.due(x.undo(), false);
        Ledger.due(x.redo(), false);
        emptyLooks(x);
        for (int box = 0; box < 3; box++) {
            Ledger.due(x.back(box), NONE);
        }
        Ledger.due(x.about(7), 0);
        Ledger.due(x.town(), 0);
        Ledger.due(x.image(2), 0);
        Ledger.due(x.sunday(), 0);
        Ledger.due(x.about(3), 1);
        Ledger.due(x.undo(), true);
        Ledger.due(x.about(3), 0);
        Ledger.due(x.redo(), true);
        Ledger.due(x.back(2), 0);
        Ledger.due(x.about(3), 0);
    }

    private static void emptyLooks(Probe x) {
        for (int what = 0; what <= 1; what++) {
            Ledger.due(x.quiet(0, 0, 0, what), NONE);
            Ledger.due(x.quietest(0, what), NONE);
            Ledger.due(x.hush(0, what), NONE);
            Ledger.due(x.will(0, 0, what), NONE);
            Ledger.due(x.season(what), 0);
            Ledger.due(x.ask(what, 0), NONE);
        }
        Ledger.due(x.settles(0), NONE);
        for (int degree = 0; degree <= 8; degree++) {
            Ledger.due(x.law(degree), 0);
        }
        Ledger.due(x.free(), 0);
        Ledger.due(x.sits(0, true), NONE);
        Ledger.due(x.knew(0, true), NONE);
        Ledger.due(x.kin(0, 0, true), NONE);
        Ledger.due(x.untell(0), false);
        Ledger.due(x.meant(0), 0);
    }

    private static void feeding() {
        Ledger.sentence(2, "Twenty bytes come behind those on the TAPE, of each number the highest first: how many there are");
        Probe x = new Probe();
        Ledger.due(x.feed(0x63687572, 0x63682061, 0x62636465, 0x3b636875, 0x72636820), 20);
        Ledger.due(x.feed(0x66676869, 0x3b202020, BLANKS, BLANKS, BLANKS), 40);
        Ledger.due(x.town(), 0);
        Ledger.due(x.about(1), 2);
        // The sign of a number is a bit of its first byte, and each byte is 0 to 255.
        for (int at = 0; at < 20; at++) {
            int[] n = {BLANKS, BLANKS, BLANKS, BLANKS, BLANKS};
            int shift = 24 - at % 4 * 8;
            n[at / 4] = BLANKS & ~(255 << shift) | 0xff << shift;
            x = new Probe();
            Ledger.due(x.feed(n[0], n[1], n[2], n[3], n[4]), 20);
            Ledger.due(x.town(), NONE);
            Ledger.due(x.fault(0), 1);
            Ledger.due(x.fault(1), at);
        }

        Ledger.sentence(2, "NONE, and nothing comes, if there would be more than 1,600.");
        x = new Probe();
        for (int k = 1; k <= 80; k++) {
            Ledger.due(x.feed(BLANKS, BLANKS, BLANKS, BLANKS, BLANKS), 20 * k);
        }
        Ledger.due(x.feed(0, 0, 0, 0, 0), NONE);
        Ledger.due(x.about(11), 1600);
        Ledger.due(x.end(1581), 1581);
        Ledger.due(x.feed(0, 0, 0, 0, 0), NONE);
        Ledger.due(x.about(11), 1581);
        Ledger.due(x.town(), 0);
        refusedFeed(1600);
        refusedFeed(1599);
        refusedFeed(1581);
        x = new Probe();
        x.put(many(" ", 1580));
        Ledger.due(x.feed(BLANKS, BLANKS, BLANKS, BLANKS, BLANKS - 32 + '$'), 1600);
        Ledger.due(x.town(), NONE);
        Ledger.due(x.fault(1), 1599);
    }

    private static void refusedFeed(int length) {
        Probe.refused(x -> {
            x.tell("church c;person a in c;");
            x.put("church z;" + many(" ", length - 9));
        }, x -> x.feed(0x63687572, 0x6368206b, 0x3b202020, BLANKS, BLANKS), NONE);
    }

    private static void ending() {
        Ledger.sentence(3, "The TAPE has its first n bytes: n");
        Probe x = new Probe();
        Ledger.due(x.end(0), 0);
        x.feed(0x63687572, 0x63682063, 0x3b636875, 0x72636820, 0x643b2020);
        Ledger.due(x.end(20), 20);
        Ledger.due(x.about(11), 20);
        Ledger.due(x.end(9), 9);
        Ledger.due(x.about(11), 9);
        Ledger.due(x.town(), 0);
        Ledger.due(x.about(1), 1);
        // What was cut off is not read, nor is a token longer by it.
        x = new Probe();
        x.feed(0x63687572, 0x63682063, 0x3b202020, BLANKS, BLANKS);
        Ledger.due(x.end(8), 8);
        Ledger.due(x.town(), NONE);
        Ledger.due(x.fault(0), 2);
        Ledger.due(x.fault(1), 8);
        x.put("draw 9x;");
        Ledger.due(x.end(6), 6);
        Ledger.due(x.town(), NONE);
        Ledger.due(x.fault(0), 2);
        Ledger.due(x.fault(1), 6);
        x.put("church abcdefghi;");
        Ledger.due(x.end(15), 15);
        x.put(";");
        Ledger.due(x.town(), 0);
        Ledger.due(x.about(1), 1);
        x.put("$$$$$$$$$$");
        Ledger.due(x.end(0), 0);
        Ledger.due(x.about(11), 0);
        x.put("church c;church d;");
        Ledger.due(x.town(), 0);
        Ledger.due(x.about(1), 2);

        Ledger.sentence(3, "NONE, doing nothing, if it has not so many, or n is below 0.");
        for (int n : new int[] {1, -1, LEAST, MOST}) {
            Probe.refused(p -> p.tell("church c;"), p -> p.end(n), NONE);
        }
        for (int n : new int[] {24, 1600, 1601, -1, LEAST, MOST}) {
            Probe.refusedWhenBusy(p -> p.end(n), NONE);
        }
        for (int n : new int[] {1601, -1, LEAST, MOST}) {
            Probe.refused(p -> p.put(many(" ", 1599) + "$"), p -> p.end(n), NONE);
        }
        x = new Probe();
        x.put(many(" ", 30));
        Ledger.due(x.end(7), 7);
        Ledger.due(x.end(8), NONE);
        Ledger.due(x.about(11), 7);
    }

    // ------------------------------------------------------------------ the text: tokens

    private static void textLength() {
        Ledger.sentence(4, "A TOWN is a text of at most 1,600 bytes (empty at first)");
        Probe x = sound("church" + many(" ", 1592) + "c;");
        Ledger.due(x.about(1), 1);
        x = sound(many("\n", 1591) + "church c;");
        Ledger.due(x.about(1), 1);
        faulty(many(" ", 1592) + "church c", 2, 1600);
        faulty("church" + many(" ", 1594), 2, 1600);
        faulty(many(" ", 1599) + "1", 2, 1599);
        x = new Probe();
        Ledger.due(x.town(), 0);
        Ledger.due(x.fault(0), 0);
        Ledger.due(x.fault(1), NONE);
        x.tell(TWO);
        Ledger.due(x.about(0), 2);
        Ledger.due(x.town(), 0);
        Ledger.due(x.about(0), 0);
        Ledger.due(x.about(1), 0);
    }

    private static void everyByte() {
        Ledger.sentence(4, "TOKENS: words (a .. z, 8 at most), N (1 to 4 digits), signs ; ( ) &lt; &gt; = + - * / %; blanks (32, 10)");
        for (int sign = 0; sign < 256; sign++) {
            String text = String.valueOf((char) sign);
            boolean stands = sign >= 'a' && sign <= 'z' || sign >= '0' && sign <= '9' || ";()<>=+-*/%".indexOf(sign) >= 0;
            if (sign == 32 || sign == 10) {
                sound(text);
                sound("church" + text + "c;");
            } else {
                faulty(text, stands ? 2 : 1, 0);
            }
            if (!stands && sign != 32 && sign != 10) {
                // Bad bytes end a word and a number as a sign does, and are faults of their own.
                faulty("church c" + text + ";", 1, 8);
                faulty("draw 7" + text + ";", 1, 6);
            }
        }
    }

    private static void words() {
        Ledger.sentence(4, "words (a .. z, 8 at most)");
        Probe x = sound("church abcdefgh;church abcdefgi;church bbcdefgh;person zzzzzzzz in abcdefgi;person z in bbcdefgh;");
        Ledger.due(x.about(1), 3);
        Ledger.due(x.person(0, 0), 1);
        Ledger.due(x.person(1, 0), 2);
        faulty("church abcdefghi;", 1, 7);
        faulty("church c;person abcdefghi in c;", 1, 16);
        faulty("church c;person p in cccccccccc;", 1, 21);
        faulty("personsss p in c;", 1, 0);
        faulty("churches;", 2, 0);
        faulty("church c;person p in abcdefgh;", 5, 21);
        // Names of unlike lengths are unlike, even if one begins the other.
        x = sound("church a;church aa;church aaaaaaa;church aaaaaaaa;person a in aaaaaaaa;person aa in a;");
        Ledger.due(x.person(0, 0), 3);
        Ledger.due(x.person(1, 0), 0);
        unlikeNames();
    }

    /** Names are alike by all their letters and by nothing less: each letter in each place, and two that change places. */
    private static void unlikeNames() {
        for (int place = 0; place < 8; place++) {
            for (char one = 'a'; one <= 'z'; one++) {
                for (char other = 'a'; other < one; other++) {
                    Ledger.due(churches(lettered(place, one), lettered(place, other)), 2);
                }
                faulty("church " + lettered(place, one) + ";church " + lettered(place, one) + ";", 3, 23);
            }
        }
        Ledger.due(churches("ab", "ba"), 2);
        Ledger.due(churches("abcdefgh", "hgfedcba"), 2);
        Ledger.due(churches("abcdefgh", "abcdefhg"), 2);
        Ledger.due(churches("abcdefgh", "bacdefgh"), 2);
    }

    private static int churches(String one, String other) {
        return sound("church " + one + ";church " + other + ";").about(1);
    }

    private static String lettered(int place, char letter) {
        StringBuilder name = new StringBuilder("mmmmmmmm");
        name.setCharAt(place, letter);
        return name.toString();
    }

    private static void numbers() {
        Ledger.sentence(4, "N (1 to 4 digits)");
        Ledger.due(sound("draw 5;").about(4), 5);
        Ledger.due(sound("draw 0999;").about(4), 999);
        Ledger.due(sound("draw 0000;").about(4), 0);
        Ledger.due(sound("hears 9999;").about(12), 1);
        faulty("draw 00000;", 1, 5);
        faulty("draw 00009;", 1, 5);
        faulty("hears 10000;", 1, 6);
        faulty("hears 99999999999999999999;", 1, 6);
        faulty("hears 1+4294967297;", 1, 8);
    }

    private static void blanks() {
        Ledger.sentence(4, "blanks (32, 10) part them or not");
        Probe x = sound("\n church \n\n c ; person\np\nin\nc vow\nsails\n12 ;\n");
        Ledger.due(x.person(0, 5), 12);
        x = sound("church c;person p in c sails12;degree4;calls5;draw9;hears(1)and(2)or not(own<3);");
        Ledger.due(x.person(0, 5), 12);
        Ledger.due(x.about(4), 9);
        Ledger.due(x.about(12), 7);
        sound(" ");
        sound("\n");
        sound("hears 1 + 2 * ( 3 ) ;");
        faulty("draw 1 2;", 2, 7);
        faulty("chu rch c;", 2, 0);
    }

    private static void longestTokens() {
        Ledger.sentence(4, "each is as long as can be");
        faulty("churchc;", 2, 0);
        faulty("church c;personp in c;", 2, 9);
        faulty("church c;person p inc;", 2, 18);
        faulty("hears notown;", 2, 6);
        faulty("hears sundays;", 2, 6);
        Ledger.due(sound("church inn;church i;church offf;church vows;").about(1), 4);
        Ledger.due(sound("hears 12;").about(12), 1);
        Ledger.due(Probe.of("church c;person p in c;hears 12-5;").hearing(0), 7);
    }

    private static void letterBehindNumber() {
        Ledger.sentence(4, "no letter directly behind an N");
        faulty("hears 1or 2;", 1, 6);
        sound("hears 1 or 2;");
        sound("hears 1\nor 2;");
        sound("hears 1+own;");
        faulty("draw 7x;", 1, 5);
        faulty("draw 7a", 1, 5);
        faulty("draw 7z", 1, 5);
        faulty("draw 999x;", 1, 5);
        faulty("draw 7", 2, 6);
        // A digit directly behind a word is no letter behind a number.
        Ledger.due(sound("draw7;").about(4), 7);
        faulty("church c1;", 2, 8);
    }

    private static void namesAndWords() {
        Ledger.sentence(4, "Words that stand for themselves here are no NAMES.");
        for (String word : WORDS.split(" ")) {
            faulty("church " + word + ";", 2, 7);
            faulty("church c;person " + word + " in c;", 2, 16);
            faulty("church c;person p in " + word + ";", 2, 21);
            faulty("church c;person p in c of " + word + ";", 2, 26);
            faulty(TWO + "knows p " + word + ";", 2, 45);
            faulty(TWO + "pair p q at " + word + " c;", 2, 49);
        }
        for (String name : "town line e both one sum term unit name n knew sail spite pairs hear call church".split(" ")) {
            if (name.equals("church")) {
                continue;
            }
            Probe x = sound("church " + name + ";person " + name + " in " + name + ";");
            Ledger.due(x.about(0), 1);
        }
    }

    // ------------------------------------------------------------------ the text: how many, and what they may be

    private static void sortsAtMost() {
        Ledger.sentence(4, "At most 4 CHURCHES, 8 PERSONS");
        String churches = "church c;church d;church e;church f;";
        Ledger.due(sound(churches).about(1), 4);
        Ledger.due(Probe.of(churches + "person p in f;").person(0, 0), 3);
        Ledger.due(sound(EIGHT).about(0), 8);

        Ledger.sentence(4, "one of a sort too many or a second time: at the line's first word");
        faulty(churches + "church g;", 2, 36);
        faulty(churches + "church c;", 2, 36);
        faulty(churches + "church", 2, 36);
        faulty(churches + " church $", 2, 37);
        faulty(EIGHT + "person k in c;", 2, EIGHT.length());
        faulty(EIGHT + "person a in z;", 2, EIGHT.length());
        String knows = EIGHT + links("knows", 12);
        sound(knows);
        faulty(knows + "knows d a;", 2, knows.length());
        faulty(knows + "knows a b;", 2, knows.length());
        String spites = EIGHT + links("spites", 8);
        sound(spites);
        faulty(spites + "spites d a;", 2, spites.length());
        faulty(spites + "spites z z;", 2, spites.length());
        String pairs = EIGHT + "pair a b;pair a d;pair a f;pair a g;pair a h;";
        sound(pairs);
        faulty(pairs + "pair a i;", 2, pairs.length());
        faulty(pairs + "pair b a;", 2, pairs.length());
        sound(EIGHT + links("knows", 12) + links("spites", 8) + "pair a b;pair a d;pair a f;pair a g;pair a h;"
                + "hears 1;degree 1;calls 1;draw 1;");
        for (String once : new String[] {"hears 1;", "degree 1;", "calls 1;", "draw 1;"}) {
            sound(once);
            faulty(once + once, 2, once.length());
            faulty(once + once.replace("1", "$"), 2, once.length());
            faulty(once + "church c;" + once, 2, once.length() + 9);
        }
    }

    /** So many of knows or spites, the first seven by the first person, then by the second. */
    private static String links(String word, int count) {
        StringBuilder text = new StringBuilder();
        int told = 0;
        for (int one = 0; one < 8; one++) {
            for (int other = 0; other < 8; other++) {
                if (one != other && told < count) {
                    text.append(word).append(' ').append(LETTERS.charAt(one)).append(' ').append(LETTERS.charAt(other)).append(';');
                    told++;
                }
            }
        }
        return text.toString();
    }

    private static void persons() {
        Ledger.sentence(4, "in a CHURCH, of one parent or two unlike ones, all told ahead");
        faulty("person p in c;church c;", 5, 12);
        faulty("church c;person p in d;church d;", 5, 21);
        faulty("church c;person p in p;", 5, 21);
        faulty("church c;person p in c of p;", 5, 26);
        faulty("church c;person p in c of q;person q in c;", 5, 26);
        faulty("church c;person p in c of c;", 5, 26);
        faulty(TWO + "person r in c of p and r;", 5, 60);
        faulty(TWO + "person r in c of p and s;person s in c;", 5, 60);
        faulty(TWO + "person r in c of p and p;", 3, 60);
        Probe x = sound(TWO + "person r in c of q;person s in c of r and p;person t in c;");
        int[][] parents = {{NONE, NONE}, {NONE, NONE}, {1, NONE}, {2, 0}, {NONE, NONE}};
        for (int person = 0; person < parents.length; person++) {
            Ledger.due(x.person(person, 2), parents[person][0]);
            Ledger.due(x.person(person, 3), parents[person][1]);
        }
        x = sound(EIGHT.replace("person j in c", "person j in c of i and h"));
        Ledger.due(x.person(7, 2), 6);
        Ledger.due(x.person(7, 3), 5);

        Ledger.sentence(4, "sails on a SUNDAY 1 .. 12");
        Ledger.due(sound("church c;person p in c sails 1;").person(0, 5), 1);
        Ledger.due(sound("church c;person p in c vow sails 12;").person(0, 5), 12);
        Ledger.due(sound("church c;person p in c sails 0012;").person(0, 5), 12);
        faulty("church c;person p in c sails 0;", 4, 29);
        faulty("church c;person p in c sails 13;", 4, 29);
        faulty("church c;person p in c vow sails 9999;", 4, 33);
        faulty("church c;person p in c sails 3 vow;", 2, 31);
        faulty("church c;person p in c sails 3 sails 3;", 2, 31);
        faulty("church c;person p in c vow vow;", 2, 27);
        faulty(TWO + "person r in c vow of p;", 2, 55);
    }

    private static void knowsAndSpites() {
        Ledger.sentence(4, "12 knows, 8 spites (each of two unlike PERSONS told ahead, each two once in this order)");
        Probe x = sound(EIGHT + links("knows", 12) + links("spites", 8));
        Ledger.due(x.person(0, 8), 0b11111110);
        Ledger.due(x.person(1, 8), 0b00111101);
        Ledger.due(x.person(2, 8), 0);
        Ledger.due(x.person(0, 9), 0b11111110);
        Ledger.due(x.person(1, 9), 0b00000001);
        Ledger.due(x.person(7, 9), 0);
        for (String word : new String[] {"knows", "spites"}) {
            int at = TWO.length() + word.length() + 1;
            faulty(TWO + word + " p p;", 3, at + 2);
            faulty(TWO + word + " p z;", 5, at + 2);
            faulty(TWO + word + " z p;", 5, at);
            faulty(TWO + word + " z z;", 5, at);
            faulty(TWO + word + " c p;", 5, at);
            faulty(TWO + word + " p c;", 5, at + 2);
            faulty(TWO + word + " p r;person r in c;", 5, at + 2);
            sound(TWO + word + " p q;" + word + " q p;");
            int again = at + 4 + word.length() + 1;
            faulty(TWO + word + " p q;" + word + " p q;", 3, again + 2);
            faulty(TWO + word + " p q;" + word + " q p;" + word + " q p;", 3, again + 4 + word.length() + 1 + 2);
        }
        sound(TWO + "knows p q;spites p q;");
        // Whom one knows by birth is not told already, and is none of the twelve.
        String kin = EIGHT.replace("person j in c", "person j in c of a and b");
        sound(kin + links("knows", 12));
        Ledger.due(sound(kin + "knows j a;knows a j;").person(7, 8), 0b11);
    }

    private static void pairs() {
        Ledger.sentence(4, "5 PAIRS (of two unlike PERSONS told ahead, each two once in whichever order; "
                + "at two CHURCHES told ahead, alike or not; else those in which they are told)");
        faulty(TWO + "pair p p;", 3, 44);
        faulty(TWO + "pair q q;", 3, 44);
        faulty(TWO + "pair p q;pair p q;", 3, 53);
        faulty(TWO + "pair p q;pair q p;", 3, 53);
        faulty(TWO + "pair z p;", 5, 42);
        faulty(TWO + "pair p z;", 5, 44);
        faulty(TWO + "pair p c;", 5, 44);
        faulty(TWO + "pair p r;person r in c;", 5, 44);
        faulty(TWO + "pair p q at d c;church d;", 5, 49);
        faulty(TWO + "pair p q at c d;church d;", 5, 51);
        faulty(TWO + "pair p q at p c;", 5, 49);
        faulty(TWO + "pair p q at c;", 2, 50);
        faulty(TWO + "pair p q at;", 2, 48);
        faulty(TWO + "pair p q at c c c;", 2, 53);
        String town = "church c;church d;church e;person p in d;person q in c;person r in e;";
        Probe x = sound(town + "pair p q;pair q r at d d;pair p r at e c;");
        int[][] rows = {{0, 1, 1, 0}, {1, 2, 1, 1}, {0, 2, 2, 0}};
        for (int pair = 0; pair < rows.length; pair++) {
            for (int what = 0; what < 4; what++) {
                Ledger.due(x.pair(pair, what), rows[pair][what]);
            }
        }
        // Each two once: one of both in another pair is no hindrance.
        Ledger.due(sound(EIGHT + "pair a b;pair b d;pair d a;pair f a;pair a g;").about(2), 5);
    }

    private static void numberedAsTold() {
        Ledger.sentence(4, "numbered as told, each sort by itself");
        Probe x = sound("draw 3;church d;person p in d;church c;degree 1;person d in c;pair d p;person c in c;pair p c;");
        Ledger.due(x.about(0), 3);
        Ledger.due(x.about(1), 2);
        Ledger.due(x.about(2), 2);
        Ledger.due(x.person(0, 1), 0);
        Ledger.due(x.person(1, 1), 1);
        Ledger.due(x.person(2, 1), 1);
        Ledger.due(x.pair(0, 0), 1);
        Ledger.due(x.pair(0, 1), 0);
        Ledger.due(x.pair(1, 0), 0);
        Ledger.due(x.pair(1, 1), 2);
    }

    private static void settings() {
        Ledger.sentence(4, "hears, degree (0 .. 8; 4), calls (1 .. 5; 2), draw (0 .. 999; 0) once each");
        sound("degree 0;");
        sound("degree 8;");
        faulty("degree 9;", 4, 7);
        faulty("degree 9999;", 4, 7);
        sound("calls 1;");
        sound("calls 5;");
        faulty("calls 0;", 4, 6);
        faulty("calls 6;", 4, 6);
        Ledger.due(sound("draw 0;").about(4), 0);
        Ledger.due(sound("draw 999;").about(4), 999);
        faulty("draw 1000;", 4, 5);
        faulty("draw 9999;", 4, 5);
        Ledger.due(sound("church c;").about(4), 0);
        faulty("degree -1;", 2, 7);
        faulty("degree c;", 2, 7);
        faulty("calls own;", 2, 6);
        faulty("draw ;", 2, 5);
        faulty("draw (1);", 2, 5);
    }

    private static void settingsAtWork() {
        Ledger.sentence(4, "degree (0 .. 8; 4), calls (1 .. 5; 2), draw (0 .. 999; 0) once each");
        String chain = "church c;person a in c;person b in c of a;person d in c of b;person f in c of d;"
                + "person g in c of f;person h in c of g;person i in c of h;person j in c of i;";
        String pairs = "pair a b;pair a g;pair a h;pair a i;pair a j;";
        int[] barredWithin = {0, 1, 1, 1, 2, 3, 4, 5, 5};
        for (int degree = 0; degree <= 8; degree++) {
            Ledger.due(barred(Probe.of(chain + pairs + "degree " + degree + ";")), barredWithin[degree]);
        }
        Ledger.due(barred(Probe.of(chain + pairs)), 2);
        for (int calls = 1; calls <= 5; calls++) {
            Probe x = Probe.of(chain + pairs + "calls " + calls + ";");
            Ledger.due(x.church(0, 1), (1 << calls) - 1);
        }
        Ledger.due(Probe.of(chain + pairs).church(0, 1), 0b11);
    }

    private static int barred(Probe x) {
        int count = 0;
        for (int pair = 0; pair < 5; pair++) {
            count += x.pair(pair, 6) == 1 ? 1 : 0;
        }
        return count;
    }

    // ------------------------------------------------------------------ the text: formulas

    private static void units() {
        Ledger.sentence(4, "60 units in all, 30 in one e");
        Ledger.due(sound("hears 1" + many("+1", 29) + ";").about(12), 30);
        faulty("hears 1" + many("+1", 30) + ";", 2, 66);
        Ledger.due(sound("hears own" + many("*own", 29) + ";").about(12), 30);
        faulty("hears own" + many("*own", 30) + ";", 2, 126);
        Ledger.due(sound("hears 1" + many(" or 1", 14) + many(" and 1", 15) + ";").about(12), 30);
        faulty("hears 1" + many(" or 1", 14) + many(" and 1", 16) + ";", 2, 172);
        sound("hears 1<2" + many(" and 1<2", 14) + ";");
        faulty("hears 1<2" + many(" and 1<2", 14) + " and not 1;", 2, 130);
        // A unit ( e ) is one as well, from its first token on.
        Ledger.due(sound("hears (1" + many("+1", 28) + ");").about(12), 30);
        faulty("hears (1" + many("+1", 29) + ");", 2, 65);
        faulty("hears 1" + many("+1", 28) + "+(1);", 2, 65);
        faulty("hears 1" + many("+1", 29) + "+(1);", 2, 66);
        Ledger.due(sound("hears 1;").about(12), 1);
        Ledger.due(sound("church c;").about(12), 0);
        // The units of a faulty text, or of an older town, are not counted.
        Probe x = Probe.of("hears 1" + many("+1", 29) + ";");
        x.put("hears 1" + many("+1", 30) + ";");
        Ledger.due(x.town(), NONE);
        Ledger.due(x.about(12), 30);
        x.tell("hears 1" + many("-1", 29) + ";");
        Ledger.due(x.about(12), 30);
        x.tell("church c;");
        Ledger.due(x.about(12), 0);
    }

    private static void nesting() {
        Ledger.sentence(4, "a unit ( e ), or a one behind not, within 6 others at most");
        sound("hears " + many("(", 7) + "1" + many(")", 7) + ";");
        sound("hears " + many("not ", 7) + "1;");
        sound("hears " + many("not ", 7) + "1<2;");
        sound("hears not (not (not (not 1)));");
        sound("hears (1)<" + many("(", 7) + "1" + many(")", 7) + "+(2);");
        sound("hears " + many("not ", 7) + "1 and " + many("not ", 7) + "1 or " + many("(", 7) + "1" + many(")", 7) + ";");

        Ledger.sentence(4, "a unit too many, what is within 7 others: at its first TOKEN, or the not");
        faulty("hears " + many("(", 8) + "1" + many(")", 8) + ";", 2, 13);
        faulty("hears " + many("not ", 8) + "1;", 2, 34);
        faulty("hears not " + many("(", 7) + "1" + many(")", 7) + ";", 2, 16);
        faulty("hears " + many("(", 7) + "not 1" + many(")", 7) + ";", 2, 13);
        faulty("hears " + many("not ", 7) + "(1);", 2, 34);
        faulty("hears " + many("not ", 7) + "1<(1);", 2, 36);
        faulty("hears " + many("(", 7) + "1+(1)" + many(")", 7) + ";", 2, 15);
        faulty("hears " + many("(", 7) + "1 or not 1" + many(")", 7) + ";", 2, 18);
        faulty("hears not (not (not (not (1))));", 2, 25);
        faulty("hears 1" + many("+1", 29) + "*own;", 2, 66);
    }

    // ------------------------------------------------------------------ the text: faults

    private static void firstFault() {
        Ledger.sentence(5, "FAULTS, the first by its place (bytes from 0; the end: the text's length), at one place the least");
        faulty("$church c;degree 9;", 1, 0);
        faulty("church c;degree 9;$", 4, 16);
        faulty("church c;church c;degree 9;", 3, 16);
        faulty("church c;person p in d of p;", 5, 21);
        faulty("church c;;degree 9;$", 2, 9);
        faulty("degree 9 $", 4, 7);
        faulty("degree $ 9", 1, 7);
        faulty("church", 2, 6);
        faulty("church \n ", 2, 9);
        faulty("church c", 2, 8);
        faulty("church c\n", 2, 9);
        faulty("hears 1+", 2, 8);
        // Two faults at one place: no token, and where nothing more can stand, or not this.
        faulty("church $", 1, 7);
        faulty("church c$", 1, 8);
        faulty("hears 1" + many("+1", 29) + "+$;", 1, 66);
        faulty("hears " + many("(", 7) + "$", 1, 13);
        faulty("draw 12345;", 1, 5);
        faulty("church c;church ccccccccc;", 1, 16);
    }

    /** Every kind of line, cut off, or with one token put in the place of another. */
    private static void cutLines() {
        Ledger.sentence(5, "2 one that can't stand there");
        String town = "church c ; church d ; person p in c ; person q in d ; ";
        List<String> lines = List.of("church e ;", "person r in c ;", "person r in c of p ;", "person r in c of p and q ;",
                "person r in c vow ;", "person r in d sails 3 ;", "person r in c of q and p vow sails 12 ;", "knows p q ;",
                "spites q p ;", "pair p q ;", "pair p q at c d ;", "hears 1 + own * ( read or not 3 % seated < 2 ) and sunday ;",
                "degree 3 ;", "calls 2 ;", "draw 17 ;");
        for (String line : lines) {
            sound(town + line);
            String[] tokens = line.split(" ");
            int place = town.length();
            for (int k = 0; k < tokens.length; k++) {
                String ahead = (town + line).substring(0, place);
                if (k > 0) {
                    faulty(ahead, 2, place);
                    faulty(ahead + "church e;", 2, place);
                    faulty(ahead + "draw 5;", 2, place);
                } else {
                    faulty(ahead + "> 1;", 2, place);
                    faulty(ahead + "own;", 2, place);
                }
                faulty(ahead + "$", 1, place);
                place += tokens[k].length() + 1;
            }
        }
    }

    private static void linesEndedTooEarly() {
        Ledger.sentence(5, "one that can't stand there");
        List<String> begun = List.of("church", "person", "person r", "person r in", "person r in c of", "person r in c of p and",
                "person r in c sails", "person r in c vow sails", "knows", "knows p", "spites", "spites p", "pair", "pair p", "pair p q at",
                "pair p q at c", "hears", "hears 1+", "hears 1-", "hears 1*", "hears 1/", "hears 1%", "hears 1<", "hears 1>", "hears 1=",
                "hears 1 or", "hears 1 and", "hears not", "hears (", "hears (1", "hears (1)+", "degree", "calls", "draw");
        for (String line : begun) {
            faulty(TWO + line + ";", 2, TWO.length() + line.length());
            faulty(TWO + line, 2, TWO.length() + line.length());
        }
        for (String joint : new String[] {"and", "or", "+", "-", "*", "/", "%", "<", ">", "=", ")"}) {
            faulty("hears " + joint + " 1;", 2, 6);
            faulty("hears 1+" + joint + " 1;", 2, 8);
            faulty("hears 1<" + joint + " 1;", 2, 8);
            faulty("hears 1 or " + joint + " 1;", 2, 11);
            faulty("hears not " + joint + " 1;", 2, 10);
            faulty("hears (" + joint + " 1);", 2, 7);
        }
    }

    private static void faultsOfEachKind() {
        Ledger.sentence(5, "3 a NAME told already (of its sort), a parent told twice, two of knows, spites, a pair that are one, "
                + "or told already (each at the second NAME)");
        faulty("church c;church c;", 3, 16);
        faulty("church c;church d;church e;church d;", 3, 34);
        faulty("church c;person c in c;person c in c;", 3, 30);
        sound("church c;church d;person c in d;person d in c;");
        faulty(TWO + "person q in c;", 3, 44);
        faulty(TWO + "person r in c of q and q;", 3, 60);
        faulty(TWO + "knows q q;", 3, 45);
        faulty(TWO + "spites q q;", 3, 46);
        faulty(TWO + "pair q q;", 3, 44);

        Ledger.sentence(5, "4 a number that can't be");
        faulty("degree 10;", 4, 7);
        faulty("calls 10;", 4, 6);
        faulty("calls 0000;", 4, 6);
        faulty("draw 1000;", 4, 5);
        faulty(TWO + "person r in c sails 13;", 4, 57);

        Ledger.sentence(5, "5 a NAME that nothing of the sort has.");
        faulty("person p in p;", 5, 12);
        faulty("church c;church d;person p in e;", 5, 30);
        faulty("knows p q;", 5, 6);
        faulty("spites p q;", 5, 7);
        faulty("pair p q;", 5, 5);
        faulty(TWO + "pair p q at q c;", 5, 49);
    }

    // ------------------------------------------------------------------ promises 4 and 5

    private static void townIsTold() {
        Ledger.sentence(4, "The TAPE (empty then) is the TOWN");
        Probe x = Probe.of(TWO);
        Ledger.due(x.about(11), 0);
        Ledger.due(x.feed(BLANKS, BLANKS, BLANKS, BLANKS, BLANKS), 20);

        Ledger.sentence(4, "how many PERSONS");
        for (int count = 0; count <= 8; count++) {
            StringBuilder text = new StringBuilder("church c;");
            for (int k = 0; k < count; k++) {
                text.append("person ").append(LETTERS.charAt(k)).append(" in c;");
            }
            x = new Probe();
            x.put(text.toString());
            Ledger.due(x.town(), count);
            Ledger.due(x.about(0), count);
        }

        Ledger.sentence(4, "(all as told, no SUNDAYS yet, no ACTS are kept, nothing is SAID, BOXES are empty then; the TIME stays)");
        x = Probe.busy();
        x.image(2);
        x.end(0);
        x.tell(Probe.BUSY);
        Ledger.due(x.about(10), 6);
        Ledger.due(x.about(9), 0);
        Ledger.due(x.untell(0), false);
        Ledger.due(x.untell(2), false);
        Ledger.due(x.meant(6), 0b1111111);
        Ledger.due(x.undo(), false);
        Ledger.due(x.redo(), false);
        for (int box = 0; box < 3; box++) {
            Ledger.due(x.back(box), NONE);
        }
        Probe fresh = new Probe();
        fresh.later(6);
        fresh.tell(Probe.BUSY);
        Ledger.alike("town()", x, fresh);
        // A number that was said is given again, at the time that stayed.
        Ledger.due(x.about(10), 6);
        x = Probe.of(TWO);
        x.later(4);
        x.sits(0, false);
        x.tell(TWO);
        Ledger.due(x.sits(0, false), 0);
        Ledger.due(x.meant(3), 0b11);
        Ledger.due(x.meant(4), 0);
        nothingIsLeft();
    }

    private static void nothingIsLeft() {
        String rich = "church c;church d;person a in d vow sails 1;person b in c of a;person f in d of a and b;person g in c;"
                + "knows a g;spites g a;spites a b;pair a b at d d;pair f g;degree 8;calls 1;draw 77;hears 3;";
        // The usual degree bars the first of these and not the second, and the usual calls leave the third over.
        String plain = "church c;church d;person a in c;person b in c of a;person f in c of b;person g in c of f;person h in c of g;"
                + "person i in c of h;pair a h;pair a i;pair b i;";
        String full = Probe.FULL + "degree 0;calls 5;hears 1" + many("+1", 29) + ";";
        for (String before : new String[] {rich, full}) {
            Probe x = Probe.of(before);
            x.tell(plain);
            Ledger.alike("town()", x, Probe.of(plain));
            x = Probe.of(before);
            x.tell(plain);
            x.tell(plain);
            Ledger.alike("town() twice", x, Probe.of(plain));
            // The same twos may be told in each town anew.
            x = Probe.of(before);
            x.tell(before);
            x.tell(before);
            Ledger.alike("town() of the same", x, Probe.of(before));
            x = Probe.of(before);
            x.tell("");
            Ledger.alike("town() of nothing", x, new Probe());
            x = Probe.of(before);
            x.tell("");
            x.tell("");
            Ledger.alike("town() of nothing twice", x, new Probe());
            // Nor is anything left of a text with a fault.
            for (String fault : new String[] {"$", "church", "person k in c vow sails 0;", "person k in c of a and z;"}) {
                x = new Probe();
                x.put(before + fault);
                Ledger.due(x.town(), NONE);
                x.tell(plain);
                Ledger.alike("town() behind a fault", x, Probe.of(plain));
            }
        }
    }

    private static void townWithFault() {
        Ledger.sentence(4, "NONE: a FAULT (all stays).");
        String rich = "church k;person q in k vow sails 1;person b in k of q;knows q b;spites b q;pair q b;degree 8;calls 5;draw 77;hears 3;";
        for (String fault : new String[] {"$", "7", "church k;", "person q in k sails 13;", "pair q z;", "church"}) {
            Probe with = Probe.busy();
            Probe without = Probe.busy();
            with.end(0);
            without.end(0);
            with.put(rich + fault);
            Ledger.due(with.town(), NONE);
            Ledger.due(with.fault(0) > 0, true);
            Ledger.due(with.about(11), 0);
            Ledger.alike("town() of " + rich + fault, with, without);
        }
        Probe x = new Probe();
        x.put("church c;$");
        Ledger.due(x.town(), NONE);
        Ledger.alike("town() of a new one", x, new Probe());
    }

    private static void faultAnswers() {
        Ledger.sentence(5, "Of the latest town() what 0: its FAULT (0), 1: its place (NONE).");
        Probe x = new Probe();
        Ledger.due(x.fault(0), 0);
        Ledger.due(x.fault(1), NONE);
        x.put("draw 1000;");
        Ledger.due(x.fault(0), 0);
        Ledger.due(x.town(), NONE);
        Ledger.due(x.fault(0), 4);
        Ledger.due(x.fault(1), 5);
        x.put("$");
        Ledger.due(x.fault(0), 4);
        Ledger.due(x.town(), NONE);
        Ledger.due(x.fault(0), 1);
        Ledger.due(x.fault(1), 0);
        Ledger.due(x.town(), 0);
        Ledger.due(x.fault(0), 0);
        Ledger.due(x.fault(1), NONE);
        x.put("church");
        Ledger.due(x.town(), NONE);
        x.sunday();
        x.feed(BLANKS, BLANKS, BLANKS, BLANKS, BLANKS);
        x.end(0);
        Ledger.due(x.fault(0), 2);
        Ledger.due(x.fault(1), 6);

        Ledger.sentence(5, "NONE for another what.");
        for (int what : new int[] {2, -1, LEAST, MOST}) {
            Ledger.due(x.fault(what), NONE);
            Ledger.due(new Probe().fault(what), NONE);
        }
    }
}
