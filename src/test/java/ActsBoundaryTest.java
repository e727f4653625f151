/** Promises 6 to 17, 33 and 34, what a town is, acts and images: each sentence that names a bound, by a new object. */
public final class ActsBoundaryTest {
    private static final int NONE = ThreeSundays.NONE;
    private static final int NO_PERSON = -2;
    private static final int[] NEVER = {-1, -2, 8, 9, 31, 32, 33, 64, 256, Integer.MIN_VALUE, Integer.MAX_VALUE};
    private static final int[] FAR = {-1, 32, Integer.MIN_VALUE, Integer.MAX_VALUE};
    private static final String CHAIN = "church c;person a in c;person b in c of a;person d in c of b;person f in c of d;"
            + "person g in c of f;person h in c of g;person i in c of h;person j in c of i;";

    public static void main(String[] args) {
        personNumbers();
        personFacts();
        away();
        whomOneKnows();
        pairNumbers();
        readings();
        bars();
        risers();
        degrees();
        ancestors();
        hearingBounds();
        hearingFormulas();
        hearingWords();
        churches();
        sitting();
        moving();
        licences();
        calls();
        draws();
        weddings();
        lastSunday();
        undoing();
        redoing();
        actsKept();
        images();
        goingBack();
        Ledger.close(6, 7, 8, 9, 10, 11, 12, 13, 14, 15, 16, 17, 33, 34);
    }

    // ------------------------------------------------------------------ promise 6

    private static void personNumbers() {
        Ledger.sentence(6, "-2 if there is none such, or for another what.");
        Probe x = Probe.of(Probe.BUSY);
        for (int what = 0; what <= 9; what++) {
            Ledger.due(x.person(6, what) > NO_PERSON, true);
            Ledger.due(x.person(7, what), NO_PERSON);
            for (int person : NEVER) {
                Ledger.due(x.person(person, what), NO_PERSON);
            }
        }
        for (int what : new int[] {10, -1, -2, 32, Integer.MIN_VALUE, Integer.MAX_VALUE}) {
            Ledger.due(x.person(0, what), NO_PERSON);
            Ledger.due(x.person(6, what), NO_PERSON);
        }
        x = Probe.of(Probe.FULL);
        Ledger.due(x.person(7, 0), 3);
        Ledger.due(x.person(7, 9), 0);
        Ledger.due(x.person(8, 0), NO_PERSON);
        x = Probe.of("church c;person a in c;");
        Ledger.due(x.person(0, 0), 0);
        Ledger.due(x.person(1, 0), NO_PERSON);
        Ledger.due(Probe.of("church c;").person(0, 0), NO_PERSON);
    }

    private static void personFacts() {
        Ledger.sentence(6, "2, 3: parents (NONE)");
        Probe x = Probe.of(Probe.BUSY);
        int[][] parents = {{NONE, NONE}, {NONE, NONE}, {0, NONE}, {0, 1}, {NONE, NONE}};
        for (int person = 0; person < parents.length; person++) {
            Ledger.due(x.person(person, 2), parents[person][0]);
            Ledger.due(x.person(person, 3), parents[person][1]);
        }

        Ledger.sentence(6, "4: 1 with a vow, else 0, 5: the SUNDAY on which he sails (0: he does not)");
        for (int person = 0; person < 7; person++) {
            Ledger.due(x.person(person, 4), person == 4 ? 1 : 0);
            Ledger.due(x.person(person, 5), person == 5 ? 3 : 0);
        }
        x = Probe.of(Probe.FULL.replace("person l in f", "person l in f vow sails 12").replace("person a in c", "person a in c sails 1"));
        Ledger.due(x.person(7, 4), 1);
        Ledger.due(x.person(7, 5), 12);
        Ledger.due(x.person(0, 5), 1);
        Ledger.due(x.person(6, 4), 0);

        Ledger.sentence(6, "7: with whom he is WED (NONE)");
        x = Probe.of(Probe.FULL);
        for (int person = 0; person < 8; person++) {
            Ledger.due(x.person(person, 7), NONE);
        }
        x.licence(4);
        Ledger.due(x.person(0, 7), 7);
        Ledger.due(x.person(7, 7), 0);
        Ledger.due(x.person(1, 7), NONE);
        x.undo();
        Ledger.due(x.person(0, 7), NONE);
        Ledger.due(x.person(7, 7), NONE);
        for (int pair = 0; pair < 4; pair++) {
            x.licence(pair);
            Ledger.due(x.person(2 * pair, 7), 2 * pair + 1);
            Ledger.due(x.person(2 * pair + 1, 7), 2 * pair);
        }

        Ledger.sentence(6, "what 0: where he SITS, 1: the CHURCH in which he was told");
        x.sit(0, 3);
        Ledger.due(x.person(0, 0), 3);
        Ledger.due(x.person(0, 1), 0);
    }

    private static void away() {
        Ledger.sentence(6, "He is AWAY from the SUNDAY on, on which he sails (the first SUNDAY is 1).");
        Probe x = Probe.of("church c;person a in c sails 1;person b in c sails 2;person d in c sails 12;person f in c;");
        for (int next = 1; next <= 30; next++) {
            Ledger.due(x.person(0, 6), 1);
            Ledger.due(x.person(1, 6), next >= 2 ? 1 : 0);
            Ledger.due(x.person(2, 6), next >= 12 ? 1 : 0);
            Ledger.due(x.person(3, 6), 0);
            x.sunday();
        }
    }

    private static void whomOneKnows() {
        Ledger.sentence(6, "A PERSON KNOWS whom he is told to know, his parents, his children.");
        Probe x = Probe.of(CHAIN);
        int[] known = {0b10, 0b101, 0b1010, 0b10100, 0b101000, 0b1010000, 0b10100000, 0b1000000};
        for (int person = 0; person < 8; person++) {
            Ledger.due(x.person(person, 8), known[person]);
            Ledger.due(x.person(person, 9), 0);
        }
        x = Probe.of("church c;person a in c;person b in c of a;person d in c of a;person f in c;knows f b;");
        Ledger.due(x.person(1, 8), 0b1);
        Ledger.due(x.person(3, 8), 0b10);
        Ledger.due(x.person(0, 8), 0b110);

        Ledger.sentence(6, "8: whom he KNOWS, 9: whom he spites, both as bits");
        StringBuilder all = new StringBuilder(Probe.FULL);
        for (char other : "abghijk".toCharArray()) {
            all.append("knows l ").append(other).append(";spites l ").append(other).append(';');
        }
        x = Probe.of(all.toString());
        Ledger.due(x.person(7, 8), 0b01111111);
        Ledger.due(x.person(7, 9), 0b01111111);
        Ledger.due(x.person(0, 8), 0);
        Ledger.due(x.person(0, 9), 0);
    }

    // ------------------------------------------------------------------ promise 7

    private static void pairNumbers() {
        Ledger.sentence(7, "8: 1 if it is READ on the next SUNDAY, else 0; NONE if there is none such, or for another what.");
        Probe x = Probe.of(Probe.BUSY);
        for (int what = 0; what <= 8; what++) {
            Ledger.due(x.pair(3, what) >= 0, true);
            Ledger.due(x.pair(4, what), NONE);
            Ledger.due(x.pair(5, what), NONE);
            for (int pair : NEVER) {
                Ledger.due(x.pair(pair, what), NONE);
            }
        }
        for (int what : new int[] {9, 10, -1, 32, Integer.MIN_VALUE, Integer.MAX_VALUE}) {
            Ledger.due(x.pair(0, what), NONE);
            Ledger.due(x.pair(3, what), NONE);
        }
        for (int pair = 0; pair < 4; pair++) {
            Ledger.due(x.pair(pair, 8), 1);
        }
        x = Probe.of(Probe.FULL);
        Ledger.due(x.pair(3, 8), 1);
        int[] last = {0, 7, 0, 3, 0, 0, 0, 0, 0};
        for (int what = 0; what < last.length; what++) {
            Ledger.due(x.pair(4, what), last[what]);
            Ledger.due(x.pair(5, what), NONE);
        }
        Ledger.due(Probe.of("church c;person a in c;").pair(0, 0), NONE);
    }

    private static void readings() {
        Ledger.sentence(7, "4: how often it was read, 5: 0 if OPEN, 1 WED, 2 VOID");
        // The first is wed on the third Sunday; the second stays open by that and is read on and on; the third is risen against.
        Probe x = Probe.of("church c;person a in c;person b in c;person d in c;person f in c;person g in c;spites g f;"
                + "pair a b;pair a d;pair b f;calls 5;hears 10;");
        for (int sundays = 0; sundays <= 20; sundays++) {
            Ledger.due(x.pair(0, 4), Math.min(3, sundays));
            Ledger.due(x.pair(0, 5), sundays >= 3 ? 1 : 0);
            Ledger.due(x.pair(1, 4), sundays);
            Ledger.due(x.pair(1, 5), 0);
            Ledger.due(x.pair(2, 4), 0);
            Ledger.due(x.pair(2, 5), sundays >= 1 ? 2 : 0);
            x.sunday();
        }
    }

    private static void bars() {
        Ledger.sentence(7, "BAR of a PAIR, the first of: 1 their DEGREE is no more than told; 2 one has a vow; "
                + "3 one is WED in another PAIR; 0 none.");
        String town = "church c;person a in c;person b in c of a vow;person d in c;person f in c vow;person g in c;"
                + "pair a b;pair a d;pair a f;pair a g;pair g d;";
        Probe x = Probe.of(town);
        barsAre(x, 1, 0, 2, 0, 0);
        Ledger.due(x.licence(1), true);
        barsAre(x, 1, 0, 2, 3, 3);
        x.undo();
        barsAre(x, 1, 0, 2, 0, 0);
        x = Probe.of(town + "degree 0;");
        barsAre(x, 2, 0, 2, 0, 0);
        // A vow bars whichever of both has it.
        x = Probe.of("church c;person a in c vow;person b in c;pair a b;person d in c vow;pair b d;");
        barsAre(x, 2, 2);
        // A wedding bars whichever of both it is, and by whichever place he has in the other pair.
        x = Probe.of("church c;person a in c;person b in c;person d in c;person f in c;pair a b;pair d a;pair b f;pair d b;pair d f;");
        x.licence(0);
        barsAre(x, 0, 3, 3, 3, 0);

        Ledger.sentence(7, "their DEGREE is no more than told");
        String kin = "church c;person a in c;person b in c of a;person d in c of a;person f in c of b;person g in c of d;person h in c of g;"
                + "pair f h;pair f g;pair b g;pair b d;pair a b;";
        int[] barredUpTo = {5, 4, 3, 2, 1};
        for (int degree = 0; degree <= 8; degree++) {
            x = Probe.of(kin + "degree " + degree + ";");
            for (int pair = 0; pair < 5; pair++) {
                Ledger.due(x.pair(pair, 6), degree >= barredUpTo[pair] ? 1 : 0);
            }
        }
        // Who have no ancestor together are of no degree, not of a great one.
        x = Probe.of("church c;person a in c;person b in c;pair a b;degree 8;");
        Ledger.due(x.pair(0, 6), 0);
    }

    private static void barsAre(Probe x, int... wanted) {
        for (int pair = 0; pair < wanted.length; pair++) {
            Ledger.due(x.pair(pair, 6), wanted[pair]);
        }
    }

    private static void risers() {
        Ledger.sentence(7, "He WOULD RISE against a PAIR, if he is none of it, and spites one of it, or it has a BAR and he KNOWS one of it.");
        String town = "church c;person a in c;person b in c;person d in c;person f in c;person g in c;person h in c;person i in c;person j in c;"
                + "knows d a;knows f b;spites g a;spites h b;knows i d;spites j d;knows a b;knows b a;spites a b;spites b a;pair a b;";
        Probe x = Probe.of(town);
        Ledger.due(x.pair(0, 7), 0b00110000);
        x = Probe.of(town.replace("person b in c", "person b in c vow"));
        Ledger.due(x.pair(0, 7), 0b00111100);
        x = Probe.of(Probe.FULL.replace("pair a b", "pair a h"));
        Ledger.due(x.pair(0, 7), 0);
        // Also against one that is wed or void.
        x = Probe.of(town);
        x.licence(0);
        Ledger.due(x.pair(0, 7), 0b00110000);
        x = Probe.of(town);
        x.sunday();
        Ledger.due(x.pair(0, 5), 2);
        Ledger.due(x.pair(0, 7), 0b00110000);
    }

    // ------------------------------------------------------------------ promises 8 and 9

    private static void degrees() {
        Ledger.sentence(8, "DEGREE (0 of one with himself); NONE if they have no ANCESTOR together, or one can't be.");
        Probe x = Probe.of(CHAIN);
        for (int one = 0; one < 8; one++) {
            for (int other = 0; other < 8; other++) {
                Ledger.due(x.degree(one, other), Math.abs(one - other));
            }
        }
        x = Probe.of(Probe.FULL);
        for (int one = 0; one < 8; one++) {
            for (int other = 0; other < 8; other++) {
                Ledger.due(x.degree(one, other), one == other ? 0 : NONE);
            }
        }
        x = Probe.of(Probe.BUSY);
        Ledger.due(x.degree(6, 6), 0);
        Ledger.due(x.degree(7, 7), NONE);
        for (int person : NEVER) {
            Ledger.due(x.degree(0, person), NONE);
            Ledger.due(x.degree(person, 0), NONE);
            Ledger.due(x.degree(person, person), NONE);
        }
        Ledger.due(x.degree(0, 7), NONE);
        Ledger.due(x.degree(7, 0), NONE);

        Ledger.sentence(8, "DEGREE of two: the fewest steps from the one up to an ANCESTOR of both and down to the other one.");
        // Parents of one child have no ancestor together; half of a way down is no way.
        x = Probe.of("church c;person a in c;person b in c;person d in c of a and b;person f in c of d and a;person g in c of b;person h in c of f and g;");
        Ledger.due(x.degree(0, 1), NONE);
        Ledger.due(x.degree(3, 0), 1);
        Ledger.due(x.degree(3, 1), 2);
        Ledger.due(x.degree(3, 4), 3);
        Ledger.due(x.degree(2, 4), 2);
        Ledger.due(x.degree(5, 0), 2);
        Ledger.due(x.degree(5, 1), 2);
        Ledger.due(x.degree(5, 2), 2);
        Ledger.due(x.degree(4, 0), NONE);
        Ledger.due(x.degree(2, 5), 2);
        // The nearer parent told first or second; the nearer ancestor told first or last.
        x = Probe.of("church c;person a in c;person b in c of a;person d in c of a and b;person f in c of b and a;person g in c of d;person h in c of a and g;");
        Ledger.due(x.degree(2, 0), 1);
        Ledger.due(x.degree(3, 0), 1);
        Ledger.due(x.degree(2, 3), 2);
        Ledger.due(x.degree(5, 0), 1);
        Ledger.due(x.degree(0, 5), 1);
        x = Probe.of("church c;person a in c;person b in c;person d in c of b;person f in c of b;person g in c of a and d;person h in c of a and f;");
        Ledger.due(x.degree(4, 5), 2);
        x = Probe.of("church c;person b in c;person a in c;person d in c of b;person f in c of b;person g in c of d and a;person h in c of f and a;");
        Ledger.due(x.degree(4, 5), 2);
        x = Probe.of("church c;person a in c;person b in c of a;person d in c of a;person f in c of b;person g in c of d;"
                + "person h in c of f;person i in c of g;person j in c of h;");
        Ledger.due(x.degree(7, 6), 7);
        Ledger.due(x.degree(6, 7), 7);
        Ledger.due(x.degree(5, 6), 6);
    }

    private static void ancestors() {
        Ledger.sentence(9, "ANCESTORS of a PERSON, as bits; NONE if there is none such.");
        Probe x = Probe.of(CHAIN);
        for (int person = 0; person < 8; person++) {
            Ledger.due(x.ancestors(person), (2 << person) - 1);
        }
        for (int person : NEVER) {
            Ledger.due(x.ancestors(person), NONE);
        }
        x = Probe.of(Probe.FULL);
        for (int person = 0; person < 8; person++) {
            Ledger.due(x.ancestors(person), 1 << person);
        }
        x = Probe.of(Probe.BUSY);
        Ledger.due(x.ancestors(3), 0b1011);
        Ledger.due(x.ancestors(6), 0b1000000);
        Ledger.due(x.ancestors(7), NONE);
    }

    // ------------------------------------------------------------------ promise 10

    /** The first of three, in the church of a pair of whom he is one. */
    private static void hears(String formula, int want) {
        Probe x = Probe.of("church c;church d;person a in c;person b in c;person f in d;pair a b;hears " + formula + ";");
        int got = x.hearing(0);
        if (got != want) {
            Ledger.complain("hearing by " + formula + " is " + got + ", due is " + want);
        }
    }

    private static void hearingBounds() {
        Ledger.sentence(10, "0 at least, 10 at most: of 10.");
        hears("0", 0);
        hears("1", 1);
        hears("9", 9);
        hears("10", 10);
        hears("11", 10);
        hears("9999", 10);
        hears("0-1", 0);
        hears("0-9999", 0);
        hears("5-5", 0);

        Ledger.sentence(10, "what comes of hears (10, if it is not told)");
        Probe x = Probe.of(Probe.FULL);
        Ledger.due(x.hearing(0), 10);
        Ledger.due(x.hearing(7), 10);
        x.sit(7, 0);
        Ledger.due(x.hearing(7), 10);

        Ledger.sentence(10, "HEARING of a PERSON (where he SITS); NONE if there is none such.");
        for (int person : NEVER) {
            Ledger.due(x.hearing(person), NONE);
        }
        x = Probe.of(Probe.BUSY);
        int[] heard = {6, 6, 6, 6, 4, 6, 6};
        for (int person = 0; person < heard.length; person++) {
            Ledger.due(x.hearing(person), heard[person]);
        }
        Ledger.due(x.hearing(7), NONE);
        // Two in e then, in whose church both pairs are read; he who came is not in his own.
        x.sit(0, 2);
        Ledger.due(x.hearing(0), 4);
        Ledger.due(x.hearing(4), 5);
        Ledger.due(x.hearing(2), 5);
    }

    private static void hearingFormulas() {
        Ledger.sentence(10, "ints, wrapping; / cut, % its rest, both by 0: 0");
        String top = "4096*4096*128";
        hears(top, 0);
        hears(top + "<0", 1);
        hears(top + "-1", 10);
        hears("(" + top + "-1)>0", 1);
        hears("(" + top + "-1+1)<0", 1);
        hears("0-" + top + "<0", 1);
        hears("0-" + top + "=" + top, 1);
        hears("(" + top + ")*2", 0);
        hears("(" + top + ")*2=0", 1);
        hears("(" + top + ")/(0-1)=" + top, 1);
        hears("(" + top + ")%(0-1)=0", 1);
        hears("(4096*16)%9999-5537", 5);
        hears("9999*9999*9999*9999=9999*9999*(9999*9999)", 1);
        hears("7/2", 3);
        hears("(0-7)/2+9", 6);
        hears("7/(0-2)+9", 6);
        hears("(0-7)/(0-2)", 3);
        hears("7%4", 3);
        hears("(0-7)%4+9", 6);
        hears("7%(0-4)", 3);
        hears("7/0", 0);
        hears("7%0", 0);
        hears("7/0+3", 3);
        hears("7%0+3", 3);
        hears("0/0=0", 1);
        hears("7/(read-1)+2", 2);
        hears("7%(read-1)+2", 2);

        Ledger.sentence(10, "relations, and, or, not are 1 or 0, of what is not 0");
        hears("(3<4)*5", 5);
        hears("(4<4)*5+1", 1);
        hears("(4<3)*5+1", 1);
        hears("(4>3)*5", 5);
        hears("(4>4)*5+1", 1);
        hears("(4=4)*5", 5);
        hears("(4=3)*5+1", 1);
        hears("(0-1<0)*5", 5);
        hears("(7 and 9)*5", 5);
        hears("(7 and 0-1)*5", 5);
        hears("(7 and 0)*5+1", 1);
        hears("(0 and 7)*5+1", 1);
        hears("(0 or 0-3)*5", 5);
        hears("(6 or 0)*5", 5);
        hears("(0 or 0)*5+1", 1);
        hears("(not 0)*5", 5);
        hears("(not 9)*5+1", 1);
        hears("(not 0-1)*5+1", 1);
        hears("(not not 9)*5", 5);
        precedence();
    }

    private static void precedence() {
        Ledger.sentence(10, "e = both {or both}. both = one {and one}. one = not one | sum [(&lt; | &gt; | =) sum]. "
                + "sum = term {(+ | -) term}. term = unit {(* | / | %) unit}.");
        hears("1 or 0 and 0", 1);
        hears("0 and 0 or 1", 1);
        hears("(1 or 0) and 0", 0);
        hears("not 1 or 1", 1);
        hears("not (1 or 1)", 0);
        hears("not 0 and 0", 0);
        hears("not 3<2", 1);
        hears("(not 3)<2", 1);
        hears("not 2=2", 0);
        hears("1+2<4", 1);
        hears("2+3*2", 8);
        hears("(2+1)*3", 9);
        hears("9-3-2", 4);
        hears("9-(3-2)", 8);
        hears("9-3+2", 8);
        hears("40/5/2", 4);
        hears("40/(6/2)", 10);
        hears("7%4*2", 6);
        hears("7*4%3", 1);
        hears("2*7/3", 4);
    }

    private static void hearingWords() {
        Ledger.sentence(10, "sunday (the next one's number)");
        Probe x = Probe.of("church c;person a in c;hears sunday;");
        for (int next = 1; next <= 14; next++) {
            Ledger.due(x.hearing(0), Math.min(10, next));
            x.sunday();
        }

        Ledger.sentence(10, "read (how many PAIRS are read there then)");
        for (int calls = 1; calls <= 5; calls++) {
            x = Probe.of(CHAIN + "church k;pair a g;pair a h;pair b h;pair b i;pair d i;degree 0;calls "
                    + calls + ";hears read;");
            Ledger.due(x.hearing(0), calls);
            x.sit(7, 1);
            Ledger.due(x.hearing(7), 0);
        }
        // Two alike are one church, and of two unlike each counts it.
        x = Probe.of("church c;church d;person a in c;person b in d;pair a b at c c;hears read*3;");
        Ledger.due(x.hearing(0), 3);
        Ledger.due(x.hearing(1), 0);
        x.move(0, 1, 0);
        Ledger.due(x.hearing(0), 3);
        Ledger.due(x.hearing(1), 3);

        Ledger.sentence(10, "seated (how many SIT there who are not AWAY then)");
        x = Probe.of(CHAIN.replace("person j in c of i", "person j in c of i sails 2") + "church k;hears seated;");
        Ledger.due(x.hearing(0), 8);
        Ledger.due(x.hearing(7), 8);
        x.sunday();
        Ledger.due(x.hearing(0), 7);
        Ledger.due(x.hearing(7), 7);
        x.sit(7, 1);
        Ledger.due(x.hearing(0), 7);
        Ledger.due(x.hearing(7), 0);
        x.sit(0, 1);
        Ledger.due(x.hearing(0), 1);
        Ledger.due(x.hearing(7), 1);

        Ledger.sentence(10, "own (1 if it is the CHURCH in which he was told, else 0");
        x = Probe.of("church c;church d;person a in c;person b in d;hears own*4+2;");
        Ledger.due(x.hearing(0), 6);
        Ledger.due(x.hearing(1), 6);
        x.sit(0, 1);
        Ledger.due(x.hearing(0), 2);
        Ledger.due(x.hearing(1), 6);
        x.sit(0, 0);
        Ledger.due(x.hearing(0), 6);
    }

    // ------------------------------------------------------------------ promise 11

    private static void churches() {
        Ledger.sentence(11, "Who SITS in a CHURCH (what 0), PAIRS that are READ there on the next SUNDAY (1), as bits; "
                + "NONE if there is none such, or for another what.");
        Probe x = Probe.of(Probe.BUSY);
        int[] sitters = {0b0100101, 0b1001010, 0b0010000};
        int[] read = {0b0011, 0b1100, 0b1010};
        for (int church = 0; church < 3; church++) {
            Ledger.due(x.church(church, 0), sitters[church]);
            Ledger.due(x.church(church, 1), read[church]);
            for (int what : new int[] {2, -1, 32, Integer.MIN_VALUE, Integer.MAX_VALUE}) {
                Ledger.due(x.church(church, what), NONE);
            }
        }
        for (int church : new int[] {3, 4, -1, 32, Integer.MIN_VALUE, Integer.MAX_VALUE}) {
            Ledger.due(x.church(church, 0), NONE);
            Ledger.due(x.church(church, 1), NONE);
        }
        x = Probe.of(Probe.FULL);
        Ledger.due(x.church(3, 0), 0b10001000);
        Ledger.due(x.church(3, 1), 0b01010);
        Ledger.due(x.church(4, 0), NONE);
        // Empty and full; he who is away sits there still.
        x = Probe.of(CHAIN.replace("person j in c of i", "person j in c of i sails 1") + "church k;pair a j at k k;");
        Ledger.due(x.church(0, 0), 255);
        Ledger.due(x.church(1, 0), 0);
        Ledger.due(x.church(0, 1), 0);
        Ledger.due(x.church(1, 1), 0);
        x.sit(7, 1);
        Ledger.due(x.church(0, 0), 127);
        Ledger.due(x.church(1, 0), 128);
        Ledger.due(Probe.of(CHAIN + "pair a g;pair a h;pair b h;pair b i;pair d i;calls 5;").church(0, 1), 31);
    }

    // ------------------------------------------------------------------ promises 12 to 14

    private static void sitting() {
        Ledger.sentence(12, "A PERSON SITS elsewhere: where he did");
        Probe x = Probe.of(Probe.FULL);
        Ledger.due(x.sit(0, 3), 0);
        Ledger.due(x.sit(0, 2), 3);
        Ledger.due(x.sit(0, 0), 2);
        Ledger.due(x.sit(7, 0), 3);
        Ledger.due(x.church(0, 0), 0b10010001);
        Ledger.due(x.about(7), 4);

        Ledger.sentence(12, "NONE, doing nothing, if it is the same, or one can't be. (An ACT.)");
        Probe.refusedWhenBusy(p -> p.sit(0, 2), NONE);
        Probe.refusedWhenBusy(p -> p.sit(1, 1), NONE);
        Probe.refusedWhenBusy(p -> p.sit(6, 1), NONE);
        Probe.refusedWhenBusy(p -> p.sit(7, 0), NONE);
        Probe.refusedWhenBusy(p -> p.sit(0, 3), NONE);
        Probe.refusedWhenBusy(p -> p.sit(7, 3), NONE);
        for (int number : FAR) {
            Probe.refusedWhenBusy(p -> p.sit(number, 0), NONE);
            Probe.refusedWhenBusy(p -> p.sit(0, number), NONE);
        }
        Probe.refused(p -> p.tell(Probe.FULL), p -> p.sit(8, 0), NONE);
        Probe.refused(p -> p.tell(Probe.FULL), p -> p.sit(0, 4), NONE);
        Probe.refused(p -> p.tell(Probe.FULL), p -> p.sit(0, 0), NONE);
        Probe.refused(p -> p.tell("church c;"), p -> p.sit(0, 0), NONE);
    }

    private static void moving() {
        Ledger.sentence(13, "An OPEN PAIR is READ in two CHURCHES from now on: how often it was read");
        Probe x = Probe.of(Probe.FULL);
        Ledger.due(x.move(4, 3, 3), 0);
        Ledger.due(x.pair(4, 2), 3);
        Ledger.due(x.pair(4, 3), 3);
        Ledger.due(x.pair(4, 8), 0);
        Ledger.due(x.move(4, 0, 0), 0);
        Ledger.due(x.move(1, 3, 0), 0);
        Ledger.due(x.pair(1, 2), 3);
        Ledger.due(x.pair(1, 3), 0);
        Ledger.due(x.pair(0, 2), 0);
        Ledger.due(x.pair(0, 3), 1);
        Ledger.due(x.about(7), 3);
        x.sunday();
        x.sunday();
        Ledger.due(x.move(0, 1, 1), 2);
        Ledger.due(x.pair(0, 4), 2);

        Ledger.sentence(13, "NONE, doing nothing, if it is not OPEN, or one can't be. (An ACT.)");
        Probe.refusedWhenBusy(p -> p.move(1, 0, 0), NONE);
        Probe.refusedWhenBusy(p -> p.move(2, 0, 0), NONE);
        Probe.refusedWhenBusy(p -> p.move(4, 0, 0), NONE);
        Probe.refusedWhenBusy(p -> p.move(0, 3, 0), NONE);
        Probe.refusedWhenBusy(p -> p.move(0, 0, 3), NONE);
        Probe.refusedWhenBusy(p -> p.move(3, 3, 3), NONE);
        for (int number : FAR) {
            Probe.refusedWhenBusy(p -> p.move(number, 0, 0), NONE);
            Probe.refusedWhenBusy(p -> p.move(0, number, 0), NONE);
            Probe.refusedWhenBusy(p -> p.move(0, 0, number), NONE);
        }
        Probe.refused(p -> p.tell(Probe.FULL), p -> p.move(5, 0, 0), NONE);
        Probe.refused(p -> p.tell(Probe.FULL), p -> p.move(0, 4, 0), NONE);
        Probe.refused(p -> p.tell(Probe.FULL), p -> p.move(0, 0, 4), NONE);
    }

    private static int licence(Probe x, int pair) {
        return x.licence(pair) ? 1 : 0;
    }

    private static void licences() {
        Ledger.sentence(14, "a licence: an OPEN PAIR is WED at once, if it has no BAR");
        Probe x = Probe.of(Probe.FULL);
        Ledger.due(x.licence(4), true);
        Ledger.due(x.pair(4, 5), 1);
        Ledger.due(x.pair(4, 4), 0);
        Ledger.due(x.about(5), 0b10000);
        Ledger.due(x.about(7), 1);
        Ledger.due(x.licence(1), true);
        Ledger.due(x.about(5), 0b10010);
        // He who is away, or who is spited, is given it all the same.
        x = Probe.of("church c;person a in c sails 1;person b in c;person d in c;spites d a;pair a b;");
        Ledger.due(x.licence(0), true);
        // Just beyond the degree that bars.
        x = Probe.of("church c;person a in c;person b in c of a;person d in c of a;person f in c of b;pair f d;degree 2;");
        Ledger.due(x.licence(0), true);

        Ledger.sentence(14, "true; false, doing nothing, if it is not OPEN, has a BAR, or there is none such. (An ACT.)");
        Probe.refusedWhenBusy(p -> licence(p, 1), 0);
        Probe.refusedWhenBusy(p -> licence(p, 2), 0);
        Probe.refusedWhenBusy(p -> licence(p, 3), 0);
        Probe.refusedWhenBusy(p -> licence(p, 4), 0);
        for (int number : FAR) {
            Probe.refusedWhenBusy(p -> licence(p, number), 0);
        }
        Probe.refused(p -> p.tell(Probe.BUSY), p -> licence(p, 1), 0);
        Probe.refused(p -> p.tell(Probe.BUSY), p -> licence(p, 3), 0);
        Probe.refused(p -> p.tell(Probe.FULL), p -> licence(p, 5), 0);
        Probe.refused(p -> {
            p.tell(Probe.FULL);
            p.licence(0);
        }, p -> licence(p, 4), 0);
        Probe.refused(p -> {
            p.tell(Probe.FULL);
            p.licence(0);
        }, p -> licence(p, 0), 0);
    }

    // ------------------------------------------------------------------ promise 15

    private static void calls() {
        Ledger.sentence(15, "PAIR by PAIR, each OPEN one of which none is AWAY on it is called, if both its CHURCHES "
                + "(one, if they are alike) have had fewer calls on it than told: those are READ on it.");
        String town = "church c;church d;person a in c;person b in c;person f in d sails 3;person g in d;";
        Probe x = Probe.of(town + "pair a b at c c;pair a f at c d;pair g b at d d;calls 1;");
        readingsAfterSunday(x, 1, 0, 1);
        Ledger.due(x.church(0, 1), 0b001);
        Ledger.due(x.church(1, 1), 0b100);
        // Two alike take one call of two.
        x = Probe.of(town + "pair a b at c c;pair a f at c c;pair g b at c d;calls 2;");
        readingsAfterSunday(x, 1, 1, 0);
        x = Probe.of(town + "pair a b at c d;pair a f at d c;pair g b at d d;calls 3;");
        readingsAfterSunday(x, 1, 1, 1);
        // Either of two that is full is enough, and the other is not used up by it.
        x = Probe.of(town + "pair a b at c c;pair a f at d c;pair g b at d d;calls 1;");
        readingsAfterSunday(x, 1, 0, 1);
        x = Probe.of(town + "pair a b at d d;pair a f at d c;pair g b at c c;calls 1;");
        readingsAfterSunday(x, 1, 0, 1);
        // One who sails on the third is read on the second still, and on the third leaves his call to others.
        x = Probe.of(town + "pair a f at c c;pair g b at c c;calls 1;");
        readingsAfterSunday(x, 1, 0);
        readingsAfterSunday(x, 2, 0);
        readingsAfterSunday(x, 2, 1);
        Ledger.due(x.pair(0, 5), 0);
        // Whichever of both is away.
        x = Probe.of(town + "pair f a at c c;pair g b at c c;calls 1;");
        x.sunday();
        x.sunday();
        readingsAfterSunday(x, 2, 1);
        // Nor do the wed and the void take calls.
        x = Probe.of(town + "pair a b at c c;pair a g at c c;calls 1;");
        x.licence(0);
        readingsAfterSunday(x, 0, 1);
        x = Probe.of(town + "spites g a;pair a b at d d;pair b f at d d;calls 1;");
        readingsAfterSunday(x, 0, 0);
        Ledger.due(x.about(6), 1);
        readingsAfterSunday(x, 0, 1);
    }

    private static void readingsAfterSunday(Probe x, int... wanted) {
        x.sunday();
        for (int pair = 0; pair < wanted.length; pair++) {
            Ledger.due(x.pair(pair, 4), wanted[pair]);
        }
    }

    private static void draws() {
        Ledger.sentence(15, "the SEED (draw, at first) becomes its 137-fold and 71 more, modulo 1,000");
        String one = "church c;person a in c;person b in c;person f in c;spites f a;pair a b;";
        int[][] seeds = {{0, 71}, {7, 30}, {999, 934}, {137, 840}, {500, 571}, {1, 208}};
        for (int[] seed : seeds) {
            Probe x = Probe.of(one + "hears 0;draw " + seed[0] + ";");
            x.sunday();
            Ledger.due(x.about(4), seed[1]);
        }

        Ledger.sentence(15, "if its rest by 10 is less than his HEARING, it is VOID");
        // Draws whose seeds end in 0, 4 and 9.
        int[][] rests = {{7, 0}, {999, 4}, {4, 9}};
        for (int[] rest : rests) {
            for (int hearing = 0; hearing <= 10; hearing++) {
                Probe x = Probe.of(one + "hears " + hearing + ";draw " + rest[0] + ";");
                Ledger.due(x.sunday(), 0);
                Ledger.due(x.pair(0, 5), rest[1] < hearing ? 2 : 0);
                Ledger.due(x.pair(0, 4), rest[1] < hearing ? 0 : 1);
            }
        }

        Ledger.sentence(15, "(others draw nothing any more)");
        String two = "church c;person a in c;person b in c;person f in c;person g in c;person h in c;spites f a;spites g b;spites h a;pair a b;";
        // From 0: 71, then 798, then 397.
        Probe x = Probe.of(two + "hears 2;");
        x.sunday();
        Ledger.due(x.about(4), 71);
        Ledger.due(x.about(6), 1);
        x = Probe.of(two + "hears 1;");
        x.sunday();
        Ledger.due(x.about(4), 397);
        Ledger.due(x.about(6), 0);
        x = Probe.of(two + "hears 0;");
        x.sunday();
        Ledger.due(x.about(4), 397);
        whoDraws();
    }

    private static void whoDraws() {
        Ledger.sentence(15, "Then, PAIR by PAIR, each that is READ: each who WOULD RISE, SITS in one of its CHURCHES, and is not AWAY, PERSON by PERSON");
        String town = "church c;church d;church e;person a in c;person b in d;person f in c;person g in d;person h in e;person i in c sails 2;";
        // Three draw on the first Sunday, he who sails being there; two on the second.
        Probe x = Probe.of(town + "spites f a;spites g a;spites h a;spites i a;pair a b;hears 0;");
        x.sunday();
        Ledger.due(x.about(4), 397);
        x.sunday();
        Ledger.due(x.about(4), 91);
        // In two churches alike each draws once.
        x = Probe.of(town + "spites f a;pair a b at c c;hears 0;");
        x.sunday();
        Ledger.due(x.about(4), 71);
        // None draws against what is not read.
        x = Probe.of(town + "spites f b;pair a f;pair b g at c c;calls 1;hears 0;");
        x.sunday();
        Ledger.due(x.about(4), 0);
        // All that are read on it are read till its end, though one is void by then, or wed.
        String four = "church c;person a in c;person b in c;person f in c;person g in c;person h in c;";
        x = Probe.of(four + "spites h a;spites h g;pair a b;pair f g;hears (read=2)*10;");
        x.sunday();
        Ledger.due(x.about(6), 0b11);
        Ledger.due(x.about(4), 798);
        x = Probe.of(four + "spites h g;pair a b;pair f g;hears (sunday=3)*(read=2)*10;");
        x.sunday();
        x.sunday();
        Ledger.due(x.sunday(), 0b01);
        Ledger.due(x.about(6), 0b10);
        // Who knows one of the wed pair's persons would rise against the other pair on that same Sunday, but not ahead of it.
        x = Probe.of(four + "knows h g;pair a b;pair a g;");
        x.sunday();
        x.sunday();
        Ledger.due(x.about(4), 0);
        Ledger.due(x.pair(1, 7), 0);
        Ledger.due(x.sunday(), 0b01);
        Ledger.due(x.about(6), 0b10);
        Ledger.due(x.about(4), 71);
        x = Probe.of(four + "knows h g;pair a g;pair a b;");
        x.sunday();
        x.sunday();
        Ledger.due(x.sunday(), 0b01);
        Ledger.due(x.pair(1, 5), 0);
        Ledger.due(x.about(4), 0);
        // The lower number draws first: he of c hears with 9 and rises, then with 0 and leaves it to him of d.
        x = Probe.of(town + "spites f a;spites g a;pair a b;hears seated*seated*seated-18;");
        x.sunday();
        Ledger.due(x.about(4), 71);
        Ledger.due(x.about(6), 1);
        x = Probe.of(town + "spites f a;spites g a;pair a b;hears (seated<3)*9;");
        x.sunday();
        Ledger.due(x.about(4), 798);
        Ledger.due(x.about(6), 1);
    }

    private static void weddings() {
        Ledger.sentence(15, "if none rose it was read once more, and if it was so three times at least then, "
                + "and both are WED in no other PAIR, it is WED (else it stays OPEN)");
        Probe x = Probe.of(Probe.FULL + "calls 5;");
        Ledger.due(x.sunday(), 0);
        Ledger.due(x.sunday(), 0);
        Ledger.due(x.about(5), 0);
        Ledger.due(x.sunday(), 0b01111);
        Ledger.due(x.about(5), 0b01111);
        Ledger.due(x.pair(4, 5), 0);
        Ledger.due(x.pair(4, 4), 3);
        Ledger.due(x.sunday(), 0);
        Ledger.due(x.pair(4, 4), 4);
        Ledger.due(x.pair(0, 4), 3);
        // The last by its number; barred by kin, if nobody rises; not by one who is wed by licence elsewhere.
        x = Probe.of(Probe.FULL + "calls 5;");
        x.licence(1);
        x.licence(2);
        x.licence(3);
        x.sunday();
        x.sunday();
        Ledger.due(x.sunday(), 0b00001);
        Ledger.due(x.pair(4, 5), 0);
        x = Probe.of("church c;person a in c;person b in c of a;pair a b;");
        x.sunday();
        x.sunday();
        Ledger.due(x.pair(0, 6), 1);
        Ledger.due(x.sunday(), 1);
        x = Probe.of(Probe.FULL.replace("pair a l", "pair g l").replace("pair g h", "pair a h") + "calls 5;");
        x.licence(0);
        x.sunday();
        x.sunday();
        Ledger.due(x.sunday(), 0b01100);
        // A Sunday on which it is not read is none of the three.
        x = Probe.of("church c;person a in c;person b in c;person d in c;pair a b;pair b d;calls 1;");
        x.move(1, 0, 0);
        x.sunday();
        x.sunday();
        Ledger.due(x.sunday(), 1);
        Ledger.due(x.pair(1, 4), 0);

        Ledger.sentence(15, "A SUNDAY: PAIRS that are WED on it, as bits");
        x = Probe.of("church c;");
        Ledger.due(x.sunday(), 0);
        x = Probe.of(Probe.FULL + "calls 5;");
        x.sunday();
        x.sunday();
        x.licence(0);
        Ledger.due(x.sunday(), 0b01110);
        x = Probe.of(Probe.FULL + "calls 5;");
        x.licence(1);
        x.sunday();
        x.sunday();
        Ledger.due(x.sunday(), 0b01101);
    }

    private static void lastSunday() {
        Ledger.sentence(15, "NONE, doing nothing, behind 999 of them. (An ACT.)");
        String town = "church c;person a in c;person b in c;person d in c;person f in c;spites f d;pair a b;pair a d;hears 0;";
        Probe with = sundays(town, 999);
        Probe without = sundays(town, 999);
        Ledger.due(with.sunday(), NONE);
        Ledger.due(with.sunday(), NONE);
        Ledger.due(with.about(3), 999);
        Ledger.alike("sunday()", with, without);
        Probe x = sundays(town, 998);
        Ledger.due(x.sunday(), 0);
        Ledger.due(x.about(3), 999);
        Ledger.due(x.undo(), true);
        Ledger.due(x.about(3), 998);
        Ledger.due(x.sunday(), 0);
        Ledger.due(x.sunday(), NONE);
    }

    /** More calls than are promised, as no fewer come to so many Sundays. */
    private static Probe sundays(String town, int count) {
        Probe x = new Probe();
        x.uncounted();
        x.tell(town);
        for (int k = 0; k < count; k++) {
            x.sunday();
        }
        return x;
    }

    // ------------------------------------------------------------------ promises 16 and 17

    private static int undo(Probe x) {
        return x.undo() ? 1 : 0;
    }

    private static int redo(Probe x) {
        return x.redo() ? 1 : 0;
    }

    private static void undoing() {
        Ledger.sentence(16, "UNDO: true; false if there is none.");
        Probe.refused(p -> { }, p -> undo(p), 0);
        Probe.refused(p -> p.tell(Probe.BUSY), p -> undo(p), 0);
        Probe.refused(p -> {
            p.tell(Probe.BUSY);
            p.sunday();
            p.sit(0, 1);
            p.undo();
            p.undo();
        }, p -> undo(p), 0);
        Probe.refused(p -> {
            p.tell(Probe.BUSY);
            p.sunday();
            p.image(0);
            p.sit(0, 1);
            p.back(0);
        }, p -> undo(p), 0);

        Ledger.sentence(16, "UNDO takes back the latest ACT that was not");
        Probe x = Probe.busy();
        Ledger.due(x.about(7), 4);
        Ledger.due(x.pair(2, 5), 1);
        Ledger.due(x.undo(), true);
        Ledger.due(x.pair(2, 5), 0);
        Ledger.due(x.pair(3, 2), 0);
        Ledger.due(x.undo(), true);
        Ledger.due(x.pair(3, 2), 2);
        Ledger.due(x.pair(3, 3), 1);
        Ledger.due(x.person(0, 0), 2);
        Ledger.due(x.undo(), true);
        Ledger.due(x.person(0, 0), 0);
        Ledger.due(x.about(3), 1);
        Ledger.due(x.about(4), 643);
        Ledger.due(x.pair(1, 5), 2);
        Ledger.due(x.pair(0, 4), 1);
        Ledger.due(x.undo(), true);
        Ledger.due(x.about(3), 0);
        Ledger.due(x.about(4), 5);
        Ledger.due(x.pair(1, 5), 0);
        Ledger.due(x.pair(0, 4), 0);
        Ledger.due(x.undo(), false);
        Ledger.due(x.about(8), 6);
        // What is said, kept in boxes and fed is no act, and stays.
        Ledger.due(x.about(9), 3);
        Ledger.due(x.about(10), 6);
        Ledger.due(x.about(11), 23);
        Ledger.due(x.back(1), 1);
    }

    private static void redoing() {
        Ledger.sentence(17, "REDO: true; false if there is none.");
        Probe.refused(p -> { }, p -> redo(p), 0);
        Probe.refused(p -> p.tell(Probe.BUSY), p -> redo(p), 0);
        Probe.refused(p -> {
            p.tell(Probe.BUSY);
            p.sunday();
            p.sit(0, 1);
        }, p -> redo(p), 0);
        Probe.refused(p -> {
            p.tell(Probe.BUSY);
            p.sunday();
            p.undo();
            p.redo();
        }, p -> redo(p), 0);
        Probe.refused(p -> {
            p.tell(Probe.BUSY);
            p.image(0);
            p.sunday();
            p.undo();
            p.back(0);
        }, p -> redo(p), 0);

        Ledger.sentence(17, "REDO does that again which was taken back last (till another ACT)");
        Probe x = Probe.busy();
        Ledger.due(x.about(8), 2);
        Ledger.due(x.redo(), true);
        Ledger.due(x.about(3), 2);
        Ledger.due(x.person(1, 0), 1);
        Ledger.due(x.redo(), true);
        Ledger.due(x.person(1, 0), 0);
        Ledger.due(x.redo(), false);
        Ledger.due(x.about(7), 6);
        // Each kind of act ends it, one that is refused does not.
        for (int kind = 0; kind < 4; kind++) {
            x = Probe.busy();
            x.sit(0, 2);
            x.move(1, 0, 0);
            x.licence(3);
            Ledger.due(x.about(8), 2);
            act(x, kind);
            Ledger.due(x.about(8), 0);
            Ledger.due(x.about(7), 5);
            Ledger.due(x.redo(), false);
        }
        x = Probe.busy();
        x.image(2);
        x.sits(0, true);
        x.later(1);
        x.untell(0);
        x.will(0, 60, 0);
        x.settles(0);
        x.season(0);
        Ledger.due(x.about(8), 2);
        Ledger.due(x.redo(), true);
    }

    private static void act(Probe x, int kind) {
        switch (kind) {
            case 0: Ledger.due(x.sit(0, 1), 2); break;
            case 1: Ledger.due(x.move(0, 1, 1), 1); break;
            case 2: Ledger.due(x.licence(0), true); break;
            default: Ledger.due(x.sunday() >= 0, true); break;
        }
    }

    private static Probe afterSundays(int count) {
        Probe x = new Probe();
        for (int k = 0; k < count; k++) {
            x.sunday();
        }
        return x;
    }

    private static int undoneInAll(Probe x) {
        int count = 0;
        while (count < 100 && x.undo()) {
            count++;
        }
        return count;
    }

    private static int redoneInAll(Probe x) {
        int count = 0;
        while (count < 100 && x.redo()) {
            count++;
        }
        return count;
    }

    private static void actsKept() {
        Ledger.sentence(16, "40 at most are kept, the oldest go.");
        int[] counts = {0, 1, 39, 40, 41, 42, 80, 81, 82, 83, 100};
        for (int count : counts) {
            Probe x = afterSundays(count);
            int kept = Math.min(40, count);
            Ledger.due(x.about(7), kept);
            Ledger.due(undoneInAll(x), kept);
            Ledger.due(x.about(3), count - kept);
            Ledger.due(x.about(7), 0);
            Ledger.due(x.about(8), kept);
            Ledger.due(redoneInAll(x), kept);
            Ledger.due(x.about(3), count);
            Ledger.due(x.about(8), 0);
        }
        // An act in the place of one taken back drives none out.
        Probe x = afterSundays(40);
        x.undo();
        x.sunday();
        Ledger.due(x.about(7), 40);
        Ledger.due(undoneInAll(x), 40);
        Ledger.due(x.about(3), 0);
        x = afterSundays(41);
        x.undo();
        x.undo();
        Ledger.due(x.about(7), 38);
        Ledger.due(x.about(8), 2);
        x.sunday();
        Ledger.due(x.about(7), 39);
        Ledger.due(undoneInAll(x), 39);
        Ledger.due(x.about(3), 1);

        Ledger.sentence(17, "40 at most are kept, the oldest go.");
        x = afterSundays(55);
        Ledger.due(undoneInAll(x), 40);
        x.sunday();
        Ledger.due(x.about(7), 1);
        Ledger.due(x.about(8), 0);
        Ledger.due(x.about(3), 16);
        Ledger.due(undoneInAll(x), 1);
        Ledger.due(x.about(3), 15);
        Ledger.due(redoneInAll(x), 1);
        x = afterSundays(55);
        Ledger.due(undoneInAll(x), 40);
        for (int k = 1; k <= 40; k++) {
            Ledger.due(x.redo(), true);
            Ledger.due(x.about(3), 15 + k);
            Ledger.due(x.about(7), k);
            Ledger.due(x.about(8), 40 - k);
        }
        Ledger.due(x.redo(), false);
    }

    // ------------------------------------------------------------------ promises 33 and 34

    private static void images() {
        Ledger.sentence(33, "Where PERSONS SIT, what PAIRS are, where they are READ, how often they were, SUNDAYS, SEED are kept "
                + "in a BOX 0 .. 2: how many SUNDAYS");
        Probe x = Probe.of(Probe.BUSY);
        Ledger.due(x.image(0), 0);
        x.sunday();
        Ledger.due(x.image(1), 1);
        x.sunday();
        Ledger.due(x.image(2), 2);
        Ledger.due(x.about(7), 2);
        Ledger.due(x.back(0), 0);
        Ledger.due(x.back(1), 1);
        Ledger.due(x.back(2), 2);
        // A box that is full is filled anew, and the others stay.
        x.sunday();
        Ledger.due(x.image(1), 3);
        Ledger.due(x.back(0), 0);
        Ledger.due(x.back(1), 3);
        Ledger.due(x.back(2), 2);

        Ledger.sentence(33, "NONE if there is none such.");
        for (int box : new int[] {3, 4, -1, 32, Integer.MIN_VALUE, Integer.MAX_VALUE}) {
            Probe.refusedWhenBusy(p -> p.image(box), NONE);
        }
        Probe.refused(p -> { }, p -> p.image(3), NONE);
    }

    private static void goingBack() {
        Ledger.sentence(34, "All is as it was kept (no ACTS are kept then): how many SUNDAYS");
        Probe x = Probe.busy();
        Ledger.due(x.back(1), 1);
        Ledger.due(x.about(7), 0);
        Ledger.due(x.about(8), 0);
        Ledger.due(x.undo(), false);
        Ledger.due(x.redo(), false);
        Ledger.due(x.person(0, 0), 2);
        Ledger.due(x.person(1, 0), 1);
        Ledger.due(x.pair(3, 2), 2);
        Ledger.due(x.pair(3, 3), 1);
        Ledger.due(x.pair(3, 4), 1);
        Ledger.due(x.about(3), 1);
        Ledger.due(x.about(4), 643);
        Ledger.due(x.about(5), 0);
        Ledger.due(x.about(6), 0b10);
        // What is said is not kept in a box, nor is the time, and neither goes back.
        Ledger.due(x.about(9), 3);
        Ledger.due(x.about(10), 6);
        Ledger.due(x.about(11), 23);
        // It is gone on from, and kept still.
        x.sunday();
        x.sit(0, 0);
        Ledger.due(x.about(7), 2);
        Ledger.due(x.undo(), true);
        Ledger.due(x.undo(), true);
        Ledger.due(x.undo(), false);
        Ledger.due(x.about(3), 1);
        Ledger.due(x.back(1), 1);
        Ledger.due(x.back(0), 0);
        Ledger.due(x.about(4), 5);
        Ledger.due(x.about(6), 0);
        Ledger.due(x.person(0, 0), 0);
        x = afterSundays(45);
        x.image(2);
        Ledger.due(x.undo(), true);
        Ledger.due(x.back(2), 45);
        Ledger.due(x.about(7), 0);
        x.sunday();
        Ledger.due(undoneInAll(x), 1);
        Ledger.due(x.about(3), 45);

        Ledger.sentence(34, "NONE, doing nothing, if nothing was.");
        for (int box : new int[] {2, 3, 4, -1, 32, 33, Integer.MIN_VALUE, Integer.MAX_VALUE}) {
            Probe.refusedWhenBusy(p -> p.back(box), NONE);
        }
        for (int box = 0; box < 3; box++) {
            int empty = box;
            Probe.refused(p -> {
                p.tell(Probe.BUSY);
                p.sunday();
                p.sit(0, 1);
                p.undo();
                p.image((empty + 1) % 3);
            }, p -> p.back(empty), NONE);
        }
    }
}
