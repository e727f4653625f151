/** Promises 26 to 32 and 35, what was said, and what is told of all: each sentence that names a bound, by a new object. */
public final class SaidBoundaryTest {
    private static final int NONE = ThreeSundays.NONE;
    private static final int LEAST = Integer.MIN_VALUE;
    private static final int MOST = Integer.MAX_VALUE;
    private static final int[] FAR = {-1, -2, 32, 33, LEAST, MOST};
    private static final String CHAIN = "church c;person a in c;person b in c of a;person d in c of b;person f in c of d;"
            + "person g in c of f;person h in c of g;person i in c of h;person j in c of i;";

    public static void main(String[] args) {
        sitsNumbers();
        sitsMeant();
        knewNumbers();
        knewMeant();
        kinNumbers();
        kinMeant();
        thirty();
        untelling();
        time();
        meantAtTimes();
        meantNow();
        asking();
        askRefused();
        aboutAtMost();
        aboutRefused();
        Ledger.close(26, 27, 28, 29, 30, 31, 32, 35);
    }

    /** Ten of each sort, every third of them untold: thirty in all. */
    private static void sayThirty(Probe x) {
        x.tell(Probe.BUSY);
        x.later(4);
        for (int k = 0; k < 10; k++) {
            Ledger.due(x.sits(2, false), 3 * k);
            Ledger.due(x.knew(6, false), 3 * k + 1);
            Ledger.due(x.kin(0, 8, true), 3 * k + 2);
            x.untell(3 * k);
        }
        x.later(1);
        x.sunday();
    }

    // ------------------------------------------------------------------ promises 26 to 28

    private static void sitsNumbers() {
        Ledger.sentence(26, "That he SITS in a CHURCH, or does not: its number; NONE, doing nothing, if one can't be, or there are 30.");
        Probe x = Probe.of(Probe.BUSY);
        Ledger.due(x.sits(0, true), 0);
        Ledger.due(x.sits(2, false), 1);
        Ledger.due(x.sits(2, false), 2);
        Ledger.due(x.about(9), 3);
        x = Probe.of(Probe.FULL);
        Ledger.due(x.sits(3, true), 0);
        Ledger.due(x.sits(4, true), NONE);
        Ledger.due(x.about(9), 1);
        Probe.refusedWhenBusy(p -> p.sits(3, true), NONE);
        Probe.refusedWhenBusy(p -> p.sits(4, false), NONE);
        for (int number : FAR) {
            Probe.refusedWhenBusy(p -> p.sits(number, false), NONE);
        }
        Probe.refused(SaidBoundaryTest::sayThirty, p -> p.sits(0, true), NONE);
        Probe.refused(SaidBoundaryTest::sayThirty, p -> p.sits(1, false), NONE);
    }

    private static void sitsMeant() {
        Ledger.sentence(26, "that he SITS in a CHURCH, that he KNOWS a PERSON, that he is of no greater DEGREE than so much to a PERSON; "
                + "or that it is not so");
        Probe x = Probe.of(Probe.FULL);
        x.sits(3, true);
        Ledger.due(x.meant(0), 0b10001000);
        x.sits(0, false);
        Ledger.due(x.meant(0), 0b10001000);
        x.sits(0, true);
        Ledger.due(x.meant(0), 0);
        x = Probe.of(Probe.FULL);
        x.sits(3, false);
        Ledger.due(x.meant(0), 0b01110111);
        x.sits(0, false);
        x.sits(1, false);
        Ledger.due(x.meant(0), 0b01000100);
        x.sits(2, false);
        Ledger.due(x.meant(0), 0);
        // Full and empty churches, and where he sits who is away.
        x = Probe.of(CHAIN.replace("person j in c of i", "person j in c of i sails 1") + "church k;");
        x.sits(0, true);
        Ledger.due(x.meant(0), 255);
        x.sits(1, true);
        Ledger.due(x.meant(0), 0);
    }

    private static void knewNumbers() {
        Ledger.sentence(27, "That he KNOWS a PERSON, or does not: its number; NONE likewise.");
        Probe x = Probe.of(Probe.BUSY);
        Ledger.due(x.knew(0, true), 0);
        Ledger.due(x.knew(6, false), 1);
        Ledger.due(x.about(9), 2);
        x = Probe.of(Probe.FULL);
        Ledger.due(x.knew(7, false), 0);
        Ledger.due(x.knew(8, false), NONE);
        Ledger.due(x.about(9), 1);
        Probe.refusedWhenBusy(p -> p.knew(7, true), NONE);
        Probe.refusedWhenBusy(p -> p.knew(8, false), NONE);
        for (int number : FAR) {
            Probe.refusedWhenBusy(p -> p.knew(number, false), NONE);
        }
        Probe.refused(SaidBoundaryTest::sayThirty, p -> p.knew(0, true), NONE);
        Probe.refused(SaidBoundaryTest::sayThirty, p -> p.knew(6, false), NONE);
    }

    private static void knewMeant() {
        Ledger.sentence(27, "A PERSON KNOWS whom he is told to know, his parents, his children.");
        for (int person = 0; person < 8; person++) {
            Probe x = Probe.of(CHAIN + "knows a j;");
            int knowing = (1 << person + 1 | 1 << person >> 1) & 255 | (person == 7 ? 1 : 0);
            if (person == 0) {
                knowing = 0b10;
            }
            x.knew(person, true);
            Ledger.due(x.meant(0), knowing);
            x = Probe.of(CHAIN + "knows a j;");
            x.knew(person, false);
            Ledger.due(x.meant(0), 255 & ~knowing);
        }
    }

    private static void kinNumbers() {
        Ledger.sentence(28, "That he is of so small a DEGREE (0 .. 8) to a PERSON, or is not: its number; NONE likewise.");
        Probe x = Probe.of(Probe.BUSY);
        Ledger.due(x.kin(0, 0, true), 0);
        Ledger.due(x.kin(6, 8, false), 1);
        Ledger.due(x.about(9), 2);
        x = Probe.of(Probe.FULL);
        Ledger.due(x.kin(7, 8, false), 0);
        Ledger.due(x.kin(8, 8, false), NONE);
        Ledger.due(x.kin(7, 9, false), NONE);
        Ledger.due(x.about(9), 1);
        Probe.refusedWhenBusy(p -> p.kin(7, 0, true), NONE);
        Probe.refusedWhenBusy(p -> p.kin(8, 0, false), NONE);
        Probe.refusedWhenBusy(p -> p.kin(0, 9, true), NONE);
        Probe.refusedWhenBusy(p -> p.kin(0, 9, false), NONE);
        for (int number : FAR) {
            Probe.refusedWhenBusy(p -> p.kin(number, 0, false), NONE);
            Probe.refusedWhenBusy(p -> p.kin(0, number, false), NONE);
        }
        Probe.refused(SaidBoundaryTest::sayThirty, p -> p.kin(0, 0, true), NONE);
        Probe.refused(SaidBoundaryTest::sayThirty, p -> p.kin(6, 8, false), NONE);
    }

    private static void kinMeant() {
        Ledger.sentence(28, "that he is of no greater DEGREE than so much to a PERSON; or that it is not so");
        for (int degree = 0; degree <= 8; degree++) {
            int near = Math.min(255, (2 << degree) - 1);
            Probe x = Probe.of(CHAIN);
            x.kin(0, degree, true);
            Ledger.due(x.meant(0), near);
            x = Probe.of(CHAIN);
            x.kin(0, degree, false);
            Ledger.due(x.meant(0), 255 & ~near);
        }
        // Who have no ancestor together are of no degree to each other, however great.
        Probe x = Probe.of(Probe.FULL);
        x.kin(7, 8, true);
        Ledger.due(x.meant(0), 0b10000000);
        x = Probe.of(Probe.FULL);
        x.kin(7, 8, false);
        Ledger.due(x.meant(0), 0b01111111);
        x = Probe.of(Probe.FULL);
        x.kin(7, 0, false);
        Ledger.due(x.meant(0), 0b01111111);
    }

    private static void thirty() {
        Ledger.sentence(26, "SAID, 30 at most");
        Probe x = new Probe();
        sayThirty(x);
        Ledger.due(x.about(9), 30);
        Ledger.due(x.meant(4), x.meant(5));
        Ledger.due(x.sits(0, true), NONE);
        Ledger.due(x.knew(0, true), NONE);
        Ledger.due(x.kin(0, 0, true), NONE);
        Ledger.due(x.about(9), 30);
        // The thirtieth counts, and what is untold leaves no room.
        Ledger.due(x.untell(29), true);
        Ledger.due(x.sits(0, true), NONE);
        x = Probe.of(Probe.FULL);
        for (int k = 0; k < 29; k++) {
            Ledger.due(x.sits(0, true), k);
        }
        Ledger.due(x.meant(0), 0b00010001);
        Ledger.due(x.knew(0, true), 29);
        Ledger.due(x.meant(0), 0);
        Ledger.due(x.untell(29), true);
        Ledger.due(x.meant(0), 0b00010001);
        Ledger.due(x.knew(0, true), NONE);
        // A new town has room again.
        x.tell(Probe.FULL);
        Ledger.due(x.sits(0, true), 0);
    }

    // ------------------------------------------------------------------ promises 29 and 30

    private static int untell(Probe x, int said) {
        return x.untell(said) ? 1 : 0;
    }

    private static void untelling() {
        Ledger.sentence(29, "It is UNTOLD: true; false if it is so already, or there is none such.");
        Probe x = Probe.of(Probe.FULL);
        Ledger.due(x.untell(0), false);
        x.sits(0, true);
        Ledger.due(x.untell(1), false);
        Ledger.due(x.untell(0), true);
        Ledger.due(x.untell(0), false);
        Ledger.due(x.meant(0), 255);
        x.later(5);
        Ledger.due(x.untell(0), false);
        Ledger.due(x.about(9), 1);
        x = new Probe();
        sayThirty(x);
        Ledger.due(x.untell(30), false);
        Ledger.due(x.untell(29), true);
        Probe.refusedWhenBusy(p -> untell(p, 1), 0);
        Probe.refusedWhenBusy(p -> untell(p, 3), 0);
        for (int number : FAR) {
            Probe.refusedWhenBusy(p -> untell(p, number), 0);
        }
        Probe.refused(SaidBoundaryTest::sayThirty, p -> untell(p, 0), 0);
        Probe.refused(SaidBoundaryTest::sayThirty, p -> untell(p, 27), 0);
        Probe.refused(SaidBoundaryTest::sayThirty, p -> untell(p, 30), 0);
        // A second untelling does not put the first one off.
        x = Probe.of(Probe.FULL);
        x.sits(0, true);
        x.later(2);
        x.untell(0);
        x.later(2);
        x.untell(0);
        Ledger.due(x.meant(1), 0b00010001);
        Ledger.due(x.meant(2), 255);
        Ledger.due(x.meant(3), 255);
    }

    private static void time() {
        Ledger.sentence(30, "So much later (0 .. 1000): the TIME; NONE, doing nothing, for another number, or if it would be above 100,000.");
        Probe x = new Probe();
        Ledger.due(x.later(0), 0);
        Ledger.due(x.later(1), 1);
        Ledger.due(x.later(1000), 1001);
        Ledger.due(x.later(1001), NONE);
        Ledger.due(x.later(-1), NONE);
        Ledger.due(x.about(10), 1001);
        for (int number : new int[] {-1, 1001, LEAST, MOST, MOST - 5, LEAST + 1000}) {
            Probe.refusedWhenBusy(p -> p.later(number), NONE);
        }
        for (int by : new int[] {1, 2, 999, 1000}) {
            Probe.refused(p -> passTo(p, 100000), p -> p.later(by), NONE);
        }
        Probe.refused(p -> passTo(p, 99999), p -> p.later(2), NONE);
        Probe.refused(p -> passTo(p, 99001), p -> p.later(1000), NONE);
        x = Probe.of(Probe.FULL);
        passTo(x, 99999);
        Ledger.due(x.later(1), 100000);
        Ledger.due(x.later(1), NONE);
        Ledger.due(x.later(0), 100000);
        Ledger.due(x.about(10), 100000);
        // What is told at the last time counts at it.
        Ledger.due(x.sits(0, true), 0);
        Ledger.due(x.meant(99999), 255);
        Ledger.due(x.meant(100000), 0b00010001);
        Ledger.due(x.untell(0), true);
        Ledger.due(x.meant(100000), 255);
        x = new Probe();
        passTo(x, 99000);
        Ledger.due(x.later(1000), 100000);
    }

    private static void passTo(Probe x, int time) {
        for (int k = 0; k < time / 1000; k++) {
            x.later(1000);
        }
        Ledger.due(x.later(time % 1000), time);
    }

    // ------------------------------------------------------------------ promise 31

    private static void meantAtTimes() {
        Ledger.sentence(31, "As known at k that counts that was TOLD at k or before, not UNTOLD at k or before.");
        Probe x = Probe.of(Probe.FULL);
        x.later(10);
        x.sits(0, true);
        x.later(10);
        x.sits(1, false);
        x.later(10);
        x.untell(0);
        int[][] known = {{LEAST, 255}, {-1, 255}, {0, 255}, {9, 255}, {10, 0b00010001}, {19, 0b00010001}, {20, 0b00010001},
            {29, 0b00010001}, {30, 0b11011101}, {31, 0b11011101}, {MOST, 0b11011101}};
        for (int[] row : known) {
            Ledger.due(x.meant(row[0]), row[1]);
        }
        x.later(5);
        x.untell(1);
        Ledger.due(x.meant(34), 0b11011101);
        Ledger.due(x.meant(35), 255);
        Ledger.due(x.meant(30), 0b11011101);

        Ledger.sentence(31, "is TOLD at a TIME (0 at first, goes on), UNTOLD at a later one or the same");
        x = Probe.of(Probe.FULL);
        x.sits(0, true);
        Ledger.due(x.meant(-1), 255);
        Ledger.due(x.meant(0), 0b00010001);
        x.untell(0);
        for (int time : new int[] {LEAST, -1, 0, 1, MOST}) {
            Ledger.due(x.meant(time), 255);
        }
        // Told again at the same time, it counts again.
        x.sits(0, true);
        Ledger.due(x.meant(0), 0b00010001);
        x.later(0);
        x.untell(1);
        Ledger.due(x.meant(0), 255);
    }

    private static void meantNow() {
        Ledger.sentence(31, "MEANT: PERSONS of whom all that counts is so now.");
        Probe x = Probe.of(Probe.FULL);
        Ledger.due(x.meant(0), 255);
        Ledger.due(new Probe().meant(0), 0);
        Ledger.due(Probe.of("church c;person a in c;").meant(0), 1);
        Ledger.due(Probe.of(Probe.BUSY).meant(MOST), 127);
        x.sits(0, true);
        x.later(7);
        Ledger.due(x.meant(0), 0b00010001);
        x.sit(0, 1);
        Ledger.due(x.meant(0), 0b00010000);
        x.sit(7, 0);
        Ledger.due(x.meant(0), 0b10010000);
        x.undo();
        x.undo();
        Ledger.due(x.meant(0), 0b00010001);
        x.sits(0, false);
        Ledger.due(x.meant(6), 0b00010001);
        Ledger.due(x.meant(7), 0);
    }

    // ------------------------------------------------------------------ promise 32

    private static void askIs(Probe x, int time, int person, int left) {
        Ledger.due(x.ask(0, time), person);
        Ledger.due(x.ask(1, time), left);
    }

    private static void asking() {
        Ledger.sentence(32, "ASK: the PERSON of whom to hear whether he KNOWS him would leave the fewest of these at the most; of like ones the first.");
        // Nobody knows anybody: each answer leaves all, so it is the first.
        askIs(Probe.of(Probe.FULL), 0, 0, 8);
        askIs(Probe.of("church c;person a in c;"), 0, 0, 1);
        askIs(Probe.of("church c;person a in c;person b in c;knows a b;"), 0, 1, 1);
        // In a row all but the first and the last are known by two.
        askIs(Probe.of(CHAIN), 0, 1, 6);
        // The last is known by four of eight, no other by so many.
        String four = "knows a l;knows b l;knows g l;knows h l;";
        askIs(Probe.of(Probe.FULL + four), 0, 7, 4);
        askIs(Probe.of(Probe.FULL + four + "knows b a;knows g a;knows h a;knows i a;"), 0, 0, 4);
        // Known by five leaves five, known by three leaves five: the first of like ones.
        askIs(Probe.of(Probe.FULL + "knows a l;knows b l;knows g l;knows h l;knows i l;knows a b;knows g b;knows h b;"), 0, 1, 5);
        askIs(Probe.of(Probe.FULL + "knows b a;knows g a;knows h a;knows i a;knows j a;knows a l;knows b l;knows g l;"), 0, 0, 5);
        // Only those who are meant count, as known at the time.
        Probe x = Probe.of(Probe.FULL + four);
        x.later(3);
        x.sits(0, true);
        askIs(x, 2, 7, 4);
        askIs(x, 3, 7, 1);
        askIs(x, MOST, 7, 1);
        askIs(x, LEAST, 7, 4);
        x.kin(0, 0, true);
        askIs(x, 3, 0, 1);
    }

    private static void askRefused() {
        Ledger.sentence(32, "ASK what 0: the PERSON, 1: how many are left at the most; NONE if none is MEANT, or for another what.");
        Probe x = Probe.of(Probe.FULL);
        Ledger.due(x.ask(2, 0), NONE);
        for (int number : FAR) {
            Ledger.due(x.ask(number, 0), NONE);
        }
        x.later(1);
        x.sits(0, true);
        x.sits(1, true);
        askIs(x, 1, NONE, NONE);
        askIs(x, 0, 0, 8);
        x.untell(1);
        askIs(x, 1, 0, 2);
        askIs(new Probe(), 0, NONE, NONE);
        askIs(Probe.of("church c;"), 0, NONE, NONE);
    }

    // ------------------------------------------------------------------ promise 35

    private static void aboutAtMost() {
        Ledger.sentence(35, "What 0: PERSONS, 1: CHURCHES, 2: PAIRS");
        Probe x = Probe.of(Probe.FULL);
        Ledger.due(x.about(0), 8);
        Ledger.due(x.about(1), 4);
        Ledger.due(x.about(2), 5);

        Ledger.sentence(35, "3: SUNDAYS that were, 4: the SEED");
        x = Probe.of("draw 999;");
        Ledger.due(x.about(4), 999);
        for (int k = 1; k <= 100; k++) {
            x.sunday();
            Ledger.due(x.about(3), k);
        }
        Ledger.due(x.about(4), 999);

        Ledger.sentence(35, "5: PAIRS that are WED, 6: VOID, both as bits");
        x = Probe.of(Probe.FULL + "calls 5;spites i a;spites j a;spites k a;spites k g;spites a i;spites a k;spites g l;spites b l;");
        x.sunday();
        Ledger.due(x.about(6), 0b11111);
        Ledger.due(x.about(5), 0);
        x.undo();
        Ledger.due(x.about(6), 0);
        for (int pair = 0; pair < 4; pair++) {
            x.licence(pair);
        }
        Ledger.due(x.about(5), 0b01111);
        x = Probe.of(Probe.FULL);
        x.licence(4);
        Ledger.due(x.about(5), 0b10000);

        Ledger.sentence(35, "7: ACTS that can be undone, 8: redone");
        x = new Probe();
        for (int k = 1; k <= 42; k++) {
            x.sunday();
            Ledger.due(x.about(7), Math.min(40, k));
            Ledger.due(x.about(8), 0);
        }
        for (int k = 1; k <= 40; k++) {
            x.undo();
            Ledger.due(x.about(7), 40 - k);
            Ledger.due(x.about(8), k);
        }

        Ledger.sentence(35, "9: SAID, 10: the TIME, 11: bytes on the TAPE, 12: units.");
        x = new Probe();
        sayThirty(x);
        Ledger.due(x.about(9), 30);
        Ledger.due(x.about(10), 5);
        Ledger.due(x.about(12), 3);
        x.put(" ".repeat(1600));
        Ledger.due(x.about(11), 1600);
        x.end(0);
        Ledger.due(x.about(11), 0);
        Ledger.due(Probe.of("hears 1" + "+1".repeat(29) + ";").about(12), 30);
    }

    private static void aboutRefused() {
        Ledger.sentence(35, "NONE for another what.");
        Probe x = Probe.busy();
        for (int what = 0; what <= 12; what++) {
            Ledger.due(x.about(what) >= 0, true);
        }
        Ledger.due(x.about(13), NONE);
        for (int number : FAR) {
            Ledger.due(x.about(number), NONE);
            Ledger.due(new Probe().about(number), NONE);
        }
    }
}
