import java.nio.charset.StandardCharsets;
import java.util.Arrays;
import java.util.function.Consumer;
import java.util.function.ToIntFunction;

/** One object of the class with its calls counted, as nothing is promised behind the 512th. */
final class Probe {
    static final int NONE = ThreeSundays.NONE;
    static final int LEAST = Integer.MIN_VALUE;
    static final int MOST = Integer.MAX_VALUE;

    /** Seven persons, three churches, four pairs: one fewer than can be, so that a limit is not the number told. */
    static final String BUSY = "church c;church d;church e;"
            + "person a in c;person b in d;person f in c of a;person g in d of a and b;person h in e vow;"
            + "person i in c sails 3;person j in d;knows h i;spites j a;spites f i;"
            + "pair a i;pair f g at c e;pair b j;pair h j;degree 3;calls 2;draw 5;hears read+seated+own;";

    /** Eight persons, four churches, five pairs: as many as can be. */
    static final String FULL = "church c;church d;church e;church f;"
            + "person a in c;person b in d;person g in e;person h in f;person i in c;person j in d;person k in e;person l in f;"
            + "pair a b;pair g h;pair i j;pair k l;pair a l;";

    private static final int MOST_CALLS = 512;

    private final ThreeSundays x = new ThreeSundays();
    private int calls = 0;
    private boolean counted = true;

    static Probe of(String text) {
        Probe probe = new Probe();
        probe.tell(text);
        return probe;
    }

    /** Acts done and taken back, boxes 0 and 1 kept, three things said and one of them untold, bytes on the tape. */
    static Probe busy() {
        Probe probe = of(BUSY);
        probe.image(0);
        probe.sunday();
        probe.sit(0, 2);
        probe.image(1);
        probe.move(3, 0, 1);
        probe.licence(2);
        probe.sunday();
        probe.sit(1, 0);
        probe.undo();
        probe.undo();
        probe.sits(2, false);
        probe.later(3);
        probe.knew(0, true);
        probe.kin(1, 1, false);
        probe.later(2);
        probe.untell(1);
        probe.later(1);
        probe.put("church z;person y in z;");
        return probe;
    }

    /** The call on one of two objects that came the same way: it answers this, and both look alike then. */
    static void refused(Consumer<Probe> before, ToIntFunction<Probe> call, int answer) {
        Probe with = new Probe();
        Probe without = new Probe();
        before.accept(with);
        before.accept(without);
        Ledger.due(call.applyAsInt(with), answer);
        Ledger.alike(Ledger.latestCall(), with, without);
    }

    static void refusedWhenBusy(ToIntFunction<Probe> call, int answer) {
        Probe with = busy();
        Ledger.due(call.applyAsInt(with), answer);
        Ledger.alike(Ledger.latestCall(), with, busy());
    }

    /** For the one bound of the document that 512 calls do not come to. */
    void uncounted() {
        counted = false;
    }

    /** The text's bytes come behind those on the tape. */
    void put(String text) {
        byte[] bytes = text.getBytes(StandardCharsets.ISO_8859_1);
        int before = about(11);
        for (int at = 0; at < bytes.length; at += 20) {
            int[] n = new int[5];
            for (int k = 0; k < 20 && at + k < bytes.length; k++) {
                n[k / 4] |= (bytes[at + k] & 255) << 24 - k % 4 * 8;
            }
            feed(n[0], n[1], n[2], n[3], n[4]);
        }
        Ledger.due(end(before + bytes.length), before + bytes.length);
    }

    void tell(String text) {
        put(text);
        if (town() == NONE) {
            Ledger.complain("fault " + fault(0) + " at " + fault(1) + " in " + text);
        }
    }

    /** All that can be seen of the object; what is kept is seen by going to it, so nothing is left of it behind this. */
    int[] look() {
        int[] seen = new int[2 * MOST_CALLS];
        int n = 0;
        for (int what = 0; what <= 12; what++) {
            seen[n++] = about(what);
        }
        n = lookAtPersons(seen, n);
        n = lookAtPairs(seen, n);
        seen[n++] = free();
        seen[n++] = season(1);
        seen[n++] = law(0);
        for (int time : new int[] {-1, 0, 3, 4, 5, MOST}) {
            seen[n++] = meant(time);
        }
        for (int k = 0; k <= 40 && redo(); k++) {
            n = glance(seen, n);
        }
        for (int k = 0; k <= 40 && undo(); k++) {
            n = glance(seen, n);
        }
        for (int box = 0; box < 3; box++) {
            seen[n++] = back(box);
            n = glance(seen, n);
        }
        seen[n++] = town();
        seen[n++] = fault(0);
        seen[n++] = fault(1);
        seen[n++] = about(1);
        return Arrays.copyOf(seen, n);
    }

    private int lookAtPersons(int[] seen, int from) {
        int n = from;
        for (int person = 0; person < 8; person++) {
            for (int what = 0; what <= 9; what++) {
                seen[n++] = person(person, what);
            }
            seen[n++] = hearing(person);
            seen[n++] = ancestors(person);
        }
        return n;
    }

    private int lookAtPairs(int[] seen, int from) {
        int n = from;
        for (int pair = 0; pair < 5; pair++) {
            for (int what = 0; what <= 8; what++) {
                seen[n++] = pair(pair, what);
            }
        }
        return n;
    }

    private int glance(int[] seen, int from) {
        int n = from;
        for (int what = 3; what <= 6; what++) {
            seen[n++] = about(what);
        }
        seen[n++] = church(0, 0);
        seen[n++] = church(1, 0);
        seen[n++] = pair(3, 2);
        seen[n++] = pair(3, 3);
        seen[n++] = pair(0, 4);
        return n;
    }

    private void count(String call, int... with) {
        calls++;
        if (counted && calls > MOST_CALLS) {
            Ledger.complain("more calls on one object than are promised");
        }
        String list = Arrays.toString(with);
        Ledger.called(call + "(" + list.substring(1, list.length() - 1) + ")");
    }

    int feed(int a, int b, int c, int d, int e) {
        count("feed", a, b, c, d, e);
        return x.feed(a, b, c, d, e);
    }

    int end(int n) {
        count("end", n);
        return x.end(n);
    }

    int town() {
        count("town");
        return x.town();
    }

    int fault(int what) {
        count("fault", what);
        return x.fault(what);
    }

    int person(int person, int what) {
        count("person", person, what);
        return x.person(person, what);
    }

    int pair(int pair, int what) {
        count("pair", pair, what);
        return x.pair(pair, what);
    }

    int degree(int person, int other) {
        count("degree", person, other);
        return x.degree(person, other);
    }

    int ancestors(int person) {
        count("ancestors", person);
        return x.ancestors(person);
    }

    int hearing(int person) {
        count("hearing", person);
        return x.hearing(person);
    }

    int church(int church, int what) {
        count("church", church, what);
        return x.church(church, what);
    }

    int sit(int person, int church) {
        count("sit", person, church);
        return x.sit(person, church);
    }

    int move(int pair, int church, int other) {
        count("move", pair, church, other);
        return x.move(pair, church, other);
    }

    boolean licence(int pair) {
        count("licence", pair);
        return x.licence(pair);
    }

    int sunday() {
        count("sunday");
        return x.sunday();
    }

    boolean undo() {
        count("undo");
        return x.undo();
    }

    boolean redo() {
        count("redo");
        return x.redo();
    }

    int quiet(int pair, int church, int other, int part) {
        count("quiet", pair, church, other, part);
        return x.quiet(pair, church, other, part);
    }

    int quietest(int pair, int what) {
        count("quietest", pair, what);
        return x.quietest(pair, what);
    }

    int hush(int pair, int what) {
        count("hush", pair, what);
        return x.hush(pair, what);
    }

    int will(int pair, int n, int what) {
        count("will", pair, n, what);
        return x.will(pair, n, what);
    }

    int settles(int pair) {
        count("settles", pair);
        return x.settles(pair);
    }

    int season(int what) {
        count("season", what);
        return x.season(what);
    }

    int law(int degree) {
        count("law", degree);
        return x.law(degree);
    }

    int free() {
        count("free");
        return x.free();
    }

    int sits(int church, boolean is) {
        count(is ? "sits so" : "sits not", church);
        return x.sits(church, is);
    }

    int knew(int person, boolean is) {
        count(is ? "knew so" : "knew not", person);
        return x.knew(person, is);
    }

    int kin(int person, int degree, boolean is) {
        count(is ? "kin so" : "kin not", person, degree);
        return x.kin(person, degree, is);
    }

    boolean untell(int said) {
        count("untell", said);
        return x.untell(said);
    }

    int later(int by) {
        count("later", by);
        return x.later(by);
    }

    int meant(int k) {
        count("meant", k);
        return x.meant(k);
    }

    int ask(int what, int k) {
        count("ask", what, k);
        return x.ask(what, k);
    }

    int image(int box) {
        count("image", box);
        return x.image(box);
    }

    int back(int box) {
        count("back", box);
        return x.back(box);
    }

    int about(int what) {
        count("about", what);
        return x.about(what);
    }
}
