/** Promises 18 to 25, looks at what is and what would be: each sentence that names a bound, by a new object. */
public final class LooksBoundaryTest {
    private static final int NONE = ThreeSundays.NONE;
    private static final int[] FAR = {-1, -2, 32, 33, Integer.MIN_VALUE, Integer.MAX_VALUE};
    /** Six spite the first of a pair, all in one church; the second church is empty. */
    private static final String SIX = "church c;church k;person a in c;person b in c;person d in c;person f in c;person g in c;person h in c;"
            + "person i in c;person j in c;spites d a;spites f a;spites g a;spites h b;spites i b;spites j b;pair a b;";
    private static final String EIGHT = "church c;church k;person a in c;person b in c;person d in c;person f in c;person g in c;person h in c;"
            + "person i in c;person j in c;";
    /** The first is wed on the third Sunday, so the other stays open till he who spites it hears. */
    private static final String LINGERING = "church c;person a in c;person b in c;person d in c;person f in c;spites f d;pair a b;pair a d;";

    public static void main(String[] args) {
        nothingIsDone();
        quietOdds();
        quietOfWhom();
        quietRefused();
        quietest();
        quietestRefused();
        hush();
        hushRefused();
        will();
        willRefused();
        settles();
        beyondTheLast();
        seasonLength();
        seasonSailings();
        seasonChurches();
        seasonSets();
        law();
        free();
        Ledger.close(18, 19, 20, 21, 22, 23, 24, 25);
    }

    private static void nothingIsDone() {
        Ledger.sentence(18, "(By what is now; nothing is done.)");
        Probe.refusedWhenBusy(x -> {
            for (int pair = 0; pair < 5; pair++) {
                x.quiet(pair, 0, 1, 0);
                x.quiet(pair, 2, 2, 1);
                x.quietest(pair, 0);
                x.hush(pair, 1);
                x.will(pair, 60, 0);
                x.will(pair, 1, 1);
                x.settles(pair);
            }
            x.season(0);
            x.season(1);
            x.law(8);
            x.free();
            x.meant(0);
            x.ask(0, 0);
            return x.about(7);
        }, 4);
    }

    // ------------------------------------------------------------------ promise 18

    private static void quietIs(Probe x, int church, int other, int upper, int lower) {
        Ledger.due(x.quiet(0, church, other, 0), upper);
        Ledger.due(x.quiet(0, church, other, 1), lower);
    }

    private static void quietOdds() {
        Ledger.sentence(18, "QUIET the upper part (0), the lower part (1), in lowest terms (0 of 1)");
        int[][] odds = {{1, 1}, {531441, 1000000}, {4096, 15625}, {117649, 1000000}, {729, 15625}, {1, 64}, {64, 15625},
            {729, 1000000}, {1, 15625}, {1, 1000000}, {0, 1}};
        for (int hearing = 0; hearing <= 10; hearing++) {
            Probe x = Probe.of(SIX + "hears " + hearing + ";");
            quietIs(x, 0, 0, odds[hearing][0], odds[hearing][1]);
            quietIs(x, 0, 1, odds[hearing][0], odds[hearing][1]);
            quietIs(x, 1, 0, odds[hearing][0], odds[hearing][1]);
            quietIs(x, 1, 1, 1, 1);
        }
        // One who surely hears is enough; unlike hearings are multiplied.
        Probe x = Probe.of(SIX + "hears own*10;");
        for (int person = 3; person < 8; person++) {
            x.sit(person, 1);
        }
        quietIs(x, 0, 1, 0, 1);
        quietIs(x, 1, 1, 1, 1);
        x = Probe.of(SIX + "hears own*3+5;");
        for (int person = 4; person < 8; person++) {
            x.sit(person, 1);
        }
        x.sit(3, 1);
        quietIs(x, 0, 0, 1, 5);
        quietIs(x, 1, 1, 1, 32);
        quietIs(x, 0, 1, 1, 160);
        quietIs(x, 1, 0, 1, 160);
        // The first person and the last.
        x = Probe.of("church c;person z in c;person a in c;person b in c;spites z b;pair a b;hears 3;");
        quietIs(x, 0, 0, 7, 10);
        hushIs(x, 0b001);
        x = Probe.of(EIGHT + "spites a d;spites j d;pair b d;hears 4;");
        quietIs(x, 0, 0, 9, 25);
        hushIs(x, 0b10000001);
        // None who would rise, and none at all but the two.
        x = Probe.of("church c;person a in c;person b in c;pair a b;");
        quietIs(x, 0, 0, 1, 1);
    }

    private static void quietOfWhom() {
        Ledger.sentence(18, "the odds that nobody who WOULD RISE hears it on the next SUNDAY, if it is READ there "
                + "(HEARINGS by all that are READ on it as things are)");
        // He sails on the second: on the first he is there, behind it not.
        Probe x = Probe.of("church c;church k;person a in c;person b in c;person f in c sails 2;spites f a;pair a b;hears 5;draw 4;");
        quietIs(x, 0, 0, 1, 2);
        quietIs(x, 1, 1, 1, 1);
        x.sunday();
        Ledger.due(x.pair(0, 5), 0);
        quietIs(x, 0, 0, 1, 1);
        // A pair that is not read on it, being away or left over by the calls, is asked of all the same.
        x = Probe.of("church c;church k;person a in c sails 1;person b in c;person f in c;spites f a;pair a b;hears 5;");
        Ledger.due(x.pair(0, 8), 0);
        quietIs(x, 0, 0, 1, 2);
        // What is read there is as things are: none in k, though it were read there.
        x = Probe.of("church c;church k;person a in c;person b in c;person f in k;spites f a;pair a b;hears read*4+1;");
        quietIs(x, 1, 1, 9, 10);
        quietIs(x, 0, 1, 9, 10);
        x.sit(2, 0);
        quietIs(x, 0, 0, 1, 2);
        x.move(0, 1, 1);
        quietIs(x, 0, 0, 9, 10);
        // The number of the next Sunday.
        x = Probe.of("church c;person a in c;person b in c;person f in c;spites f a;pair a b;hears sunday-1;");
        quietIs(x, 0, 0, 1, 1);
        x.sunday();
        quietIs(x, 0, 0, 9, 10);
    }

    private static void quietRefused() {
        Ledger.sentence(18, "NONE if it is not OPEN, or one can't be.");
        Probe x = Probe.busy();
        Ledger.due(x.quiet(0, 2, 2, 1) >= 1, true);
        Ledger.due(x.quiet(3, 0, 2, 0) >= 0, true);
        for (int part = 0; part <= 1; part++) {
            Ledger.due(x.quiet(1, 0, 0, part), NONE);
            Ledger.due(x.quiet(2, 0, 0, part), NONE);
            Ledger.due(x.quiet(4, 0, 0, part), NONE);
            Ledger.due(x.quiet(0, 3, 0, part), NONE);
            Ledger.due(x.quiet(0, 0, 3, part), NONE);
            for (int number : FAR) {
                Ledger.due(x.quiet(number, 0, 0, part), NONE);
                Ledger.due(x.quiet(0, number, 0, part), NONE);
                Ledger.due(x.quiet(0, 0, number, part), NONE);
            }
        }
        Ledger.due(x.quiet(0, 0, 0, 2), NONE);
        for (int number : FAR) {
            Ledger.due(x.quiet(0, 0, 0, number), NONE);
        }
        x = Probe.of(Probe.FULL);
        Ledger.due(x.quiet(4, 3, 3, 0), 1);
        Ledger.due(x.quiet(5, 3, 3, 0), NONE);
        Ledger.due(x.quiet(4, 4, 3, 0), NONE);
        Ledger.due(x.quiet(4, 3, 4, 0), NONE);
    }

    // ------------------------------------------------------------------ promise 19

    private static void quietestIs(Probe x, int church, int other) {
        Ledger.due(x.quietest(0, 0), church);
        Ledger.due(x.quietest(0, 1), other);
    }

    private static void quietest() {
        Ledger.sentence(19, "QUIETEST: the two CHURCHES (alike, or not; the lower one first) in which it is most QUIET; of like ones the first.");
        String town = "church c;church d;church e;church f;person a in f;person b in f;person g in c;person h in d;person i in e;person j in f;"
                + "spites g a;spites h a;spites i b;spites j b;pair a b;";
        quietestIs(Probe.of(town), 0, 0);
        quietestIs(Probe.of(town + "hears 0;"), 0, 0);
        quietestIs(Probe.of(town + "hears 5;"), 0, 0);
        Probe x = Probe.of(town + "hears own*3+2;");
        quietestIs(x, 0, 0);
        x.sit(2, 1);
        quietestIs(x, 0, 0);
        x.sit(5, 0);
        quietestIs(x, 3, 3);
        x.sit(4, 3);
        quietestIs(x, 2, 2);
        x.sit(2, 2);
        quietestIs(x, 0, 0);
        x.sit(3, 0);
        quietestIs(x, 1, 1);
        // A little quieter is enough, be it the last.
        x = Probe.of(town + "hears seated+2;");
        quietestIs(x, 0, 0);
        x = Probe.of(town.replace("person j in f;", "person j in c;").replace("person a in f", "person a in d")
                .replace("person b in f", "person b in e") + "hears own+8;");
        quietestIs(x, 3, 3);
        x.sit(3, 3);
        quietestIs(x, 1, 1);
        Ledger.due(Probe.of("church c;person a in c;person b in c;pair a b;").quietest(0, 1), 0);
    }

    private static void quietestRefused() {
        Ledger.sentence(19, "NONE if it is not OPEN, there are no CHURCHES, or one can't be.");
        Probe x = Probe.busy();
        for (int what = 0; what <= 1; what++) {
            Ledger.due(x.quietest(0, what) >= 0, true);
            Ledger.due(x.quietest(3, what) >= 0, true);
            Ledger.due(x.quietest(1, what), NONE);
            Ledger.due(x.quietest(2, what), NONE);
            Ledger.due(x.quietest(4, what), NONE);
            for (int number : FAR) {
                Ledger.due(x.quietest(number, what), NONE);
            }
            Ledger.due(new Probe().quietest(0, what), NONE);
        }
        Ledger.due(x.quietest(0, 2), NONE);
        for (int number : FAR) {
            Ledger.due(x.quietest(0, number), NONE);
        }
        Ledger.due(Probe.of(Probe.FULL).quietest(4, 0), 0);
        Ledger.due(Probe.of(Probe.FULL).quietest(5, 0), NONE);
    }

    // ------------------------------------------------------------------ promise 20

    private static void hushIs(Probe x, int which) {
        Ledger.due(x.hush(0, 0), Integer.bitCount(which));
        Ledger.due(x.hush(0, 1), which);
    }

    private static void hush() {
        Ledger.sentence(20, "HUSH of a PAIR: the fewest of those who WOULD RISE, SIT in its CHURCHES, and are not AWAY on the next SUNDAY, "
                + "with a HEARING above 0 (all that have to be kept home).");
        hushIs(Probe.of(SIX), 0b11111100);
        hushIs(Probe.of(SIX + "hears 1;"), 0b11111100);
        hushIs(Probe.of(SIX + "hears 0;"), 0);
        hushIs(Probe.of(SIX + "hears 0-1;"), 0);
        Probe x = Probe.of(SIX + "hears own;");
        x.sit(3, 1);
        hushIs(x, 0b11110100);
        x.move(0, 1, 1);
        hushIs(x, 0);
        x.move(0, 1, 0);
        hushIs(x, 0b11110100);
        x.sit(3, 0);
        hushIs(x, 0b11111100);
        hushIs(Probe.of("church c;person a in c;person b in c;pair a b;"), 0);
        // Away from the Sunday on, on which he sails.
        x = Probe.of("church c;person a in c;person b in c;person f in c sails 2;spites f a;pair a b;hears 5;draw 4;");
        hushIs(x, 0b100);
        x.sunday();
        hushIs(x, 0);
        // Whether it is read on it or not.
        x = Probe.of("church c;person a in c sails 1;person b in c;person f in c;spites f a;pair a b;hears 5;");
        hushIs(x, 0b100);
    }

    private static void hushRefused() {
        Ledger.sentence(20, "HUSH what 0: how many, 1: which, as bits; NONE if it is not OPEN, or one can't be.");
        Probe x = Probe.busy();
        for (int what = 0; what <= 1; what++) {
            Ledger.due(x.hush(0, what) >= 0, true);
            Ledger.due(x.hush(3, what), 0);
            Ledger.due(x.hush(1, what), NONE);
            Ledger.due(x.hush(2, what), NONE);
            Ledger.due(x.hush(4, what), NONE);
            for (int number : FAR) {
                Ledger.due(x.hush(number, what), NONE);
            }
        }
        Ledger.due(x.hush(0, 2), NONE);
        for (int number : FAR) {
            Ledger.due(x.hush(0, number), NONE);
        }
        Ledger.due(Probe.of(Probe.FULL).hush(4, 0), 0);
        Ledger.due(Probe.of(Probe.FULL).hush(5, 0), NONE);
    }

    // ------------------------------------------------------------------ promises 21 and 22

    private static void will() {
        Ledger.sentence(21, "WILL (n 0 .. 60) what 0: 0 if OPEN, 1 WED, 2 VOID, 1: how often it was read");
        Probe x = Probe.of(LINGERING + "hears (sunday>57)*10;");
        for (int n = 0; n <= 60; n++) {
            Ledger.due(x.will(0, n, 0), n >= 3 ? 1 : 0);
            Ledger.due(x.will(0, n, 1), Math.min(3, n));
            Ledger.due(x.will(1, n, 0), n >= 58 ? 2 : 0);
            Ledger.due(x.will(1, n, 1), Math.min(57, n));
        }
        // Of what is wed or void now, too; and by the Sundays that come of what is now.
        x = Probe.busy();
        Ledger.due(x.will(1, 0, 0), 2);
        Ledger.due(x.will(1, 60, 0), 2);
        Ledger.due(x.will(2, 0, 0), 1);
        Ledger.due(x.will(2, 60, 0), 1);
        Ledger.due(x.will(2, 60, 1), 1);
        Ledger.due(x.will(0, 0, 1), 1);
        // It is what comes to be.
        for (int n = 0; n <= 5; n++) {
            Probe seer = Probe.busy();
            Probe doer = Probe.busy();
            for (int k = 0; k < n; k++) {
                doer.sunday();
            }
            for (int pair = 0; pair < 4; pair++) {
                Ledger.due(seer.will(pair, n, 0), doer.pair(pair, 5));
                Ledger.due(seer.will(pair, n, 1), doer.pair(pair, 4));
            }
        }
    }

    private static void willRefused() {
        Ledger.sentence(21, "NONE if one can't be.");
        Probe x = Probe.busy();
        for (int what = 0; what <= 1; what++) {
            Ledger.due(x.will(3, 60, what) >= 0, true);
            Ledger.due(x.will(4, 0, what), NONE);
            Ledger.due(x.will(0, 61, what), NONE);
            for (int number : FAR) {
                Ledger.due(x.will(number, 0, what), NONE);
                if (number < 0 || number > 60) {
                    Ledger.due(x.will(0, number, what), NONE);
                }
            }
        }
        Ledger.due(x.will(0, 0, 2), NONE);
        for (int number : FAR) {
            Ledger.due(x.will(0, 0, number), NONE);
        }
        Ledger.due(Probe.of(Probe.FULL).will(4, 0, 0), 0);
        Ledger.due(Probe.of(Probe.FULL).will(5, 0, 0), NONE);
    }

    private static void settles() {
        Ledger.sentence(22, "Behind how many SUNDAYS (60 at most) a PAIR is not OPEN any more (0: it is not now)");
        Probe x = Probe.of(LINGERING + "hears (sunday>59)*10;");
        Ledger.due(x.settles(0), 3);
        Ledger.due(x.settles(1), 60);
        x.sunday();
        Ledger.due(x.settles(0), 2);
        Ledger.due(x.settles(1), 59);
        x.licence(0);
        Ledger.due(x.settles(0), 0);
        x = Probe.busy();
        Ledger.due(x.settles(1), 0);
        Ledger.due(x.settles(2), 0);
        x = Probe.of(LINGERING);
        Ledger.due(x.settles(1), 1);
        x.sunday();
        Ledger.due(x.settles(1), 0);

        Ledger.sentence(22, "NONE if it still is, or there is none such.");
        x = Probe.of(LINGERING + "hears (sunday>60)*10;");
        Ledger.due(x.settles(1), NONE);
        x.sunday();
        Ledger.due(x.settles(1), 60);
        x = Probe.of("church c;person a in c sails 3;person b in c;pair a b;");
        Ledger.due(x.settles(0), NONE);
        Ledger.due(x.settles(1), NONE);
        for (int number : FAR) {
            Ledger.due(x.settles(number), NONE);
        }
        Ledger.due(Probe.of(Probe.FULL + "calls 5;").settles(3), 3);
        Ledger.due(Probe.of(Probe.FULL).settles(5), NONE);
    }

    private static void beyondTheLast() {
        Ledger.sentence(22, "WILL: what a PAIR is behind n SUNDAYS, if all goes on (beyond 999 of them, too; so does settles()).");
        Probe x = new Probe();
        x.uncounted();
        x.tell(LINGERING + "hears (sunday>1058)*10;");
        for (int k = 0; k < 999; k++) {
            x.sunday();
        }
        Ledger.due(x.sunday(), NONE);
        Ledger.due(x.will(1, 0, 1), 999);
        Ledger.due(x.will(1, 1, 1), 1000);
        Ledger.due(x.will(1, 59, 0), 0);
        Ledger.due(x.will(1, 59, 1), 1058);
        Ledger.due(x.will(1, 60, 0), 2);
        Ledger.due(x.settles(1), 60);
    }

    // ------------------------------------------------------------------ promise 23

    private static void seasonIs(Probe x, int which) {
        Ledger.due(x.season(0), Integer.bitCount(which));
        Ledger.due(x.season(1), which);
    }

    private static void seasonLength() {
        Ledger.sentence(23, "12 SUNDAYS more at most");
        String five = EIGHT + "pair a b;pair a d;pair a f;pair a g;pair a h;";
        seasonIs(Probe.of(EIGHT + "pair a b;pair a d;pair a f;pair a g;calls 1;"), 0b1111);
        seasonIs(Probe.of(five + "calls 1;"), 0b01111);
        seasonIs(Probe.of(five + "calls 2;"), 0b11111);
        seasonIs(Probe.of(five + "calls 5;"), 0b11111);
        // Thirteen readings are due behind two Sundays, so one pair is left out; behind three one is wed and twelve are due.
        Probe x = Probe.of(five + "calls 1;");
        x.sunday();
        x.sunday();
        seasonIs(x, 0b01111);
        x.sunday();
        seasonIs(x, 0b11110);
        // Twelve in one church and one in the other.
        x = Probe.of(five + "calls 1;");
        seasonIs(x, 0b01111);
        x.move(0, 1, 1);
        seasonIs(x, 0b11111);
        // Counted from the next Sunday on, however many were; and none, when none is open.
        x = Probe.of(five + "calls 1;");
        for (int k = 0; k < 3; k++) {
            x.sunday();
        }
        x.move(1, 1, 1);
        for (int k = 0; k < 20; k++) {
            x.sunday();
        }
        Ledger.due(x.about(5), 1);
        seasonIs(x, 0b11110);
        x = Probe.of(five + "calls 1;hears 10;spites d a;spites f a;");
        for (int k = 0; k < 5; k++) {
            x.sunday();
        }
        Ledger.due(x.about(6), 0b11111);
        seasonIs(x, 0);

        Ledger.sentence(23, "SEASON what 0: how many, 1: which (OPEN ones), as bits; NONE for another what.");
        x = Probe.busy();
        Ledger.due(x.season(2), NONE);
        for (int number : FAR) {
            Ledger.due(x.season(number), NONE);
        }
        seasonIs(new Probe(), 0);
        seasonIs(Probe.of(EIGHT), 0);
        x = Probe.of(five + "calls 5;");
        x.licence(2);
        seasonIs(x, 0b11011);
    }

    private static void seasonSailings() {
        Ledger.sentence(23, "by the SUNDAYS ahead of which none of them is AWAY");
        String two = "church c;person a in c;person b in c sails ";
        for (int sails = 1; sails <= 12; sails++) {
            seasonIs(Probe.of(two + sails + ";pair a b;calls 5;"), sails >= 4 ? 1 : 0);
            seasonIs(Probe.of(two + sails + ";pair b a;calls 5;"), sails >= 4 ? 1 : 0);
        }
        for (int sails = 1; sails <= 12; sails++) {
            String all = EIGHT.replace("person a in c", "person a in c sails " + sails) + "pair a b;pair a d;pair a f;pair a g;pair a h;calls 1;";
            seasonIs(Probe.of(all), (1 << (sails - 1) / 3) - 1);
        }
        // The earlier sailing of both.
        String both = "church c;person a in c sails 4;person b in c sails 3;person d in c sails 12;";
        seasonIs(Probe.of(both + "pair a b;"), 0);
        seasonIs(Probe.of(both + "pair a d;"), 1);
        seasonIs(Probe.of(both + "pair d b;"), 0);
        // What was read already is of the three, and what was missed is not made up.
        Probe x = Probe.of("church c;person a in c sails 4;person b in c;person d in c;pair b d;pair a b;calls 1;");
        seasonIs(x, 0b11);
        x.sunday();
        seasonIs(x, 0b01);
        x = Probe.of("church c;person a in c sails 4;person b in c;person d in c;pair a b;pair b d;calls 1;");
        x.sunday();
        seasonIs(x, 0b11);
        x.sunday();
        seasonIs(x, 0b11);
        // One goes by its own sailing, not by those of the others.
        x = Probe.of("church c;person a in c sails 4;person b in c sails 7;person d in c;person f in c;pair d f;pair b d;pair a f;calls 1;");
        seasonIs(x, 0b111);
        // Read three times and open still, none is due of it, be it away.
        x = Probe.of("church c;person a in c;person b in c;person d in c sails 4;pair a b;pair a d;");
        x.sunday();
        x.sunday();
        x.sunday();
        Ledger.due(x.pair(1, 8), 0);
        seasonIs(x, 0b10);
        for (int sails = 4; sails <= 8; sails++) {
            x = Probe.of("church c;person a in c;person b in c;person d in c sails " + sails + ";person f in c;pair a b;pair a d;pair d f at c c;");
            for (int k = 1; k < sails; k++) {
                x.sunday();
            }
            Ledger.due(x.pair(1, 4), sails - 1);
            seasonIs(x, 0b010);
        }
    }

    private static void seasonChurches() {
        Ledger.sentence(23, "on each SUNDAY no more than told in a CHURCH, each PAIR once a SUNDAY, whatever bars, whoever rises");
        String town = EIGHT.replace("person a in c", "person a in c sails 4");
        // Three Sundays: one, two, three at a time.
        String pairs = "pair a b;pair a d;pair a f;pair a g;pair a h;";
        for (int calls = 1; calls <= 5; calls++) {
            seasonIs(Probe.of(town + pairs + "calls " + calls + ";"), (1 << calls) - 1);
        }
        // Two churches alike are one call, two unlike are one in each.
        seasonIs(Probe.of(town + "pair a b at c c;pair a d at c c;calls 2;"), 0b11);
        seasonIs(Probe.of(town + "pair a b at c k;pair a d at k c;calls 1;"), 0b01);
        seasonIs(Probe.of(town + "pair a b at c c;pair a d at k k;calls 1;"), 0b11);
        seasonIs(Probe.of(town + "pair a b at c k;pair a d at c c;pair a f at k k;calls 1;"), 0b110);
        // By where they are read now, and by the town that is told now.
        Probe moved = Probe.of(town + "pair a b at c c;pair a d at k k;calls 1;");
        seasonIs(moved, 0b11);
        moved.move(1, 0, 0);
        seasonIs(moved, 0b01);
        moved.undo();
        seasonIs(moved, 0b11);
        moved.tell(town + "pair a b;pair a d;calls 1;");
        seasonIs(moved, 0b01);
        // Twice on one Sunday would do.
        seasonIs(Probe.of("church c;person a in c sails 3;person b in c;pair a b;calls 5;"), 0);
        // Kin, a vow and spite are nothing to it, nor is a wedding.
        Probe x = Probe.of("church c;person a in c;person b in c of a;person d in c vow;person f in c;spites f a;"
                + "pair a b;pair a d;pair b f;pair d f;pair a f;calls 5;");
        seasonIs(x, 0b11111);
        x.licence(4);
        seasonIs(x, 0b01111);
    }

    private static void seasonSets() {
        Ledger.sentence(23, "most of them; of like ones the least set as bits");
        String town = EIGHT.replace("person a in c", "person a in c sails 4").replace("person b in c", "person b in c sails 3");
        seasonIs(Probe.of(town + "pair a d;pair a f;pair a g;calls 1;"), 0b001);
        seasonIs(Probe.of(town + "pair b d;pair a f;pair a g;calls 1;"), 0b010);
        seasonIs(Probe.of(town + "pair b d;pair b f;pair b g;pair b h;pair a b;calls 1;"), 0);
        seasonIs(Probe.of(town + "pair b d;pair b f;pair b g;pair b h;pair a d;calls 1;"), 0b10000);
        // The first or the second; with the first the third is read twice beside it, which is no more than not at all.
        seasonIs(Probe.of(town + "pair a d at c c;pair a f at c k;pair b g at k k;calls 1;"), 0b001);
        // More are better than lesser bits: one in both churches keeps out two.
        seasonIs(Probe.of(town + "pair a d at c k;pair a f at c c;pair a g at k k;calls 1;"), 0b110);
        seasonIs(Probe.of(town + "pair a d at c k;pair a f at c c;calls 1;"), 0b01);
    }

    // ------------------------------------------------------------------ promises 24 and 25

    private static void law() {
        Ledger.sentence(24, "LAW by a degree: how many more OPEN PAIRS would have a BAR of kin, if it told another degree.");
        String kin = "church c;person a in c;person b in c of a;person d in c of b;person f in c of d;person g in c of f;"
                + "person h in c of g;person i in c of h;person j in c of i;pair a b;pair a d;pair a h;pair a i;pair a j;";
        int[] within = {0, 1, 2, 2, 2, 3, 4, 5, 5};
        for (int told = 0; told <= 8; told++) {
            Probe x = Probe.of(kin + "degree " + told + ";");
            for (int degree = 0; degree <= 8; degree++) {
                Ledger.due(x.law(degree), within[degree] - within[told]);
            }
        }
        Probe x = Probe.of(kin + "degree 0;calls 5;");
        x.licence(1);
        Ledger.due(x.law(8), 4);
        Ledger.due(x.law(2), 1);
        x = Probe.of(kin.replace("pair a b;", "") + "degree 2;spites b d;draw 0;");
        x.sunday();
        Ledger.due(x.pair(0, 5), 2);
        Ledger.due(x.law(0), 0);
        Ledger.due(x.law(8), 3);
        // A vow and a wedding are no bar of kin, nor is it to be none.
        x = Probe.of("church c;person a in c vow;person b in c;person d in c of a;pair a b;pair a d;degree 0;");
        Ledger.due(x.law(8), 1);

        Ledger.sentence(24, "LAW (0 .. 8); -100 for another degree.");
        Ledger.due(x.law(9), -100);
        for (int number : FAR) {
            Ledger.due(x.law(number), -100);
            Ledger.due(new Probe().law(number), -100);
        }
        Ledger.due(new Probe().law(0), 0);
        Ledger.due(new Probe().law(8), 0);
        Ledger.due(new Probe().law(9), -100);
    }

    private static void free() {
        Ledger.sentence(25, "Twos of PERSONS (each once) who have no BAR, if they were a PAIR: how many.");
        String[] letters = {"a", "b", "d", "f", "g", "h", "i", "j"};
        StringBuilder text = new StringBuilder("church c;");
        for (int count = 0; count <= 8; count++) {
            Ledger.due(Probe.of(text.toString()).free(), count * (count - 1) / 2);
            if (count < 8) {
                text.append("person ").append(letters[count]).append(" in c;");
            }
        }
        String chain = "church c;person a in c;person b in c of a;person d in c of b;person f in c of d;person g in c of f;"
                + "person h in c of g;person i in c of h;person j in c of i;";
        // Of eight in a row there are 8 - d twos of each degree d.
        int[] beyond = {28, 21, 15, 10, 6, 3, 1, 0, 0};
        for (int degree = 0; degree <= 8; degree++) {
            Ledger.due(Probe.of(chain + "degree " + degree + ";").free(), beyond[degree]);
        }
        Ledger.due(Probe.of(EIGHT.replace("person a in c", "person a in c vow")).free(), 21);
        Ledger.due(Probe.of(EIGHT.replace(" in c;", " in c vow;")).free(), 0);
        Probe x = Probe.of(EIGHT + "pair a b;pair d f;");
        Ledger.due(x.free(), 28);
        x.licence(0);
        Ledger.due(x.free(), 15);
        x.licence(1);
        Ledger.due(x.free(), 6);
        x.undo();
        Ledger.due(x.free(), 15);
    }
}
