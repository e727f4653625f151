import java.util.Arrays;

/** Banns: a town told in a text, its Sundays, what they bring, and what was said of one who meant to rise. */
public final class ThreeSundays {
    public static final int NONE = -1;

    private static final int NO_PERSON = -2;
    private static final int NO_LAW = -100;
    private static final int CHURCHES = 4;
    private static final int PERSONS = 8;
    private static final int PAIRS = 5;
    private static final int BOXES = 3;
    private static final int OPEN = 0;
    private static final int WED = 1;
    private static final int VOID = 2;
    private static final int BARRED_BY_KIN = 1;
    private static final int BARRED_BY_VOW = 2;
    private static final int BARRED_BY_WEDDING = 3;
    private static final int READINGS_DUE = 3;
    private static final int KEENEST = 10;
    private static final int TOP_DEGREE = 8;
    private static final int LAST_SUNDAY = 999;
    private static final int FARTHEST = 60;

    private Town told = new Town();
    private Town draft = new Town();
    private final Tape tape = new Tape();
    private final Parser parser = new Parser(tape, draft);
    private final Parish parish = new Parish(told);
    private final State now = new State();
    private final State ahead = new State();
    private final History history = new History();
    private final State[] boxes = {new State(), new State(), new State()};
    private final Season plan = new Season();
    private final Said sayings = new Said();
    private int keptBoxes;

    public ThreeSundays() {
        settleIn();
    }

    public int feed(int a, int b, int c, int d, int e) {
        if (!tape.hasRoom(20)) {
            return NONE;
        }
        tape.put(a);
        tape.put(b);
        tape.put(c);
        tape.put(d);
        tape.put(e);
        return tape.length;
    }

    public int end(int n) {
        if (n < 0 || n > tape.length) {
            return NONE;
        }
        tape.length = n;
        return n;
    }

    public int town() {
        boolean sound = true;
        parser.begin(draft);
        for (int k = 0; k < Tape.MOST && sound && tape.kind != Tape.END; k++) {
            sound = parser.readsLine();
        }
        tape.length = 0;
        if (!sound) {
            return NONE;
        }
        draft.family.close(draft.persons);
        Town old = told;
        told = draft;
        draft = old;
        settleIn();
        return told.persons;
    }

    public int fault(int what) {
        switch (what) {
            case 0: return parser.faultKind;
            case 1: return parser.faultPlace;
            default: return NONE;
        }
    }

    public int person(int person, int what) {
        if (!told.hasPerson(person)) {
            return NO_PERSON;
        }
        switch (what) {
            case 0: return now.seat(person);
            case 1: return told.home[person];
            case 2: return told.family.firstParent[person];
            case 3: return told.family.secondParent[person];
            case 4: return told.vows >> person & 1;
            case 5: return told.sails[person];
            case 6: return told.isAway(person, now.nextSunday()) ? 1 : 0;
            case 7: return parish.spouseOf(now, person);
            case 8: return told.family.knows[person];
            case 9: return told.spites[person];
            default: return NO_PERSON;
        }
    }

    public int pair(int pair, int what) {
        if (!told.hasPair(pair)) {
            return NONE;
        }
        switch (what) {
            case 0: return told.pairOne[pair];
            case 1: return told.pairOther[pair];
            case 2: return now.churchOne(pair);
            case 3: return now.churchOther(pair);
            case 4: return now.readings(pair);
            case 5: return now.status(pair);
            case 6: return parish.barOf(now, pair);
            case 7: return parish.risersOf(now, pair);
            case 8: return parish.calledNext(now) >> pair & 1;
            default: return NONE;
        }
    }

    public int degree(int person, int other) {
        if (!told.hasPerson(person) || !told.hasPerson(other)) {
            return NONE;
        }
        return told.family.degreeOf(person, other);
    }

    public int ancestors(int person) {
        return told.hasPerson(person) ? told.family.ancestorsOf(person) : NONE;
    }

    public int hearing(int person) {
        if (!told.hasPerson(person)) {
            return NONE;
        }
        return parish.earOf(now, person, parish.calledNext(now));
    }

    public int church(int church, int what) {
        if (!told.hasChurch(church)) {
            return NONE;
        }
        switch (what) {
            case 0: return parish.sittersIn(now, church);
            case 1: return parish.readIn(now, church, parish.calledNext(now));
            default: return NONE;
        }
    }

    public int sit(int person, int church) {
        if (!told.hasPerson(person) || !told.hasChurch(church)) {
            return NONE;
        }
        int before = now.seat(person);
        if (before == church) {
            return NONE;
        }
        now.setSeat(person, church);
        history.add(now);
        return before;
    }

    public int move(int pair, int church, int other) {
        if (!isOpen(pair) || !told.hasChurch(church) || !told.hasChurch(other)) {
            return NONE;
        }
        now.setChurches(pair, church, other);
        history.add(now);
        return now.readings(pair);
    }

    public boolean licence(int pair) {
        if (!isOpen(pair) || parish.barOf(now, pair) != 0) {
            return false;
        }
        now.setStatus(pair, WED);
        history.add(now);
        return true;
    }

    public int sunday() {
        if (now.sundays() >= LAST_SUNDAY) {
            return NONE;
        }
        int wed = parish.keepSunday(now);
        history.add(now);
        return wed;
    }

    public boolean undo() {
        return history.stepBack(now);
    }

    public boolean redo() {
        return history.stepOn(now);
    }

    public int quiet(int pair, int church, int other, int part) {
        if (!isOpen(pair) || !told.hasChurch(church) || !told.hasChurch(other) || part < 0 || part > 1) {
            return NONE;
        }
        int upper = parish.quietOf(now, pair, church, other);
        int common = greatestCommon(Parish.CERTAIN, upper);
        if (common < 1) {
            return NONE;
        }
        return (part == 0 ? upper : Parish.CERTAIN) / common;
    }

    public int quietest(int pair, int what) {
        if (!isOpen(pair) || what < 0 || what > 1) {
            return NONE;
        }
        int best = NONE;
        int answer = NONE;
        for (int low = 0; low < told.churches; low++) {
            for (int high = low; high < told.churches; high++) {
                int odds = parish.quietOf(now, pair, low, high);
                if (odds > best) {
                    best = odds;
                    answer = what == 0 ? low : high;
                }
            }
        }
        return answer;
    }

    public int hush(int pair, int what) {
        if (!isOpen(pair) || what < 0 || what > 1) {
            return NONE;
        }
        int keepHome = parish.hearersOf(now, pair);
        return what == 0 ? Integer.bitCount(keepHome) : keepHome;
    }

    public int will(int pair, int n, int what) {
        if (!told.hasPair(pair) || n < 0 || n > FARTHEST || what < 0 || what > 1) {
            return NONE;
        }
        ahead.copyFrom(now);
        for (int k = 0; k < n; k++) {
            parish.keepSunday(ahead);
        }
        return what == 0 ? ahead.status(pair) : ahead.readings(pair);
    }

    public int settles(int pair) {
        if (!told.hasPair(pair)) {
            return NONE;
        }
        ahead.copyFrom(now);
        for (int k = 0; k <= FARTHEST; k++) {
            if (ahead.status(pair) != OPEN) {
                return k;
            }
            parish.keepSunday(ahead);
        }
        return NONE;
    }

    public int season(int what) {
        if (what < 0 || what > 1) {
            return NONE;
        }
        int best = plan.bestSet(told, now);
        return what == 0 ? Integer.bitCount(best) : best;
    }

    public int law(int degree) {
        if (degree < 0 || degree > TOP_DEGREE) {
            return NO_LAW;
        }
        return openWithin(degree) - openWithin(told.degree);
    }

    public int free() {
        int count = 0;
        for (int one = 0; one < told.persons; one++) {
            for (int other = one + 1; other < told.persons; other++) {
                if (parish.barBetween(now, one, other, NONE) == 0) {
                    count++;
                }
            }
        }
        return count;
    }

    public int sits(int church, boolean is) {
        return told.hasChurch(church) ? sayings.tell(Said.SITS, church, 0, is) : NONE;
    }

    public int knew(int person, boolean is) {
        return told.hasPerson(person) ? sayings.tell(Said.KNOWS, person, 0, is) : NONE;
    }

    public int kin(int person, int degree, boolean is) {
        if (!told.hasPerson(person) || degree < 0 || degree > TOP_DEGREE) {
            return NONE;
        }
        return sayings.tell(Said.KIN, person, degree, is);
    }

    public boolean untell(int said) {
        return sayings.takeBack(said);
    }

    public int later(int by) {
        return sayings.passTime(by);
    }

    public int meant(int k) {
        return sayings.fitting(told, now, k);
    }

    public int ask(int what, int k) {
        int left = sayings.fitting(told, now, k);
        if (left == 0 || what < 0 || what > 1) {
            return NONE;
        }
        int best = NONE;
        int fewest = PERSONS + 1;
        for (int person = 0; person < told.persons; person++) {
            int knowing = Integer.bitCount(left & told.family.knownBy(person));
            int most = Math.max(knowing, Integer.bitCount(left) - knowing);
            if (most < fewest) {
                fewest = most;
                best = person;
            }
        }
        return what == 0 ? best : fewest;
    }

    public int image(int box) {
        if (box < 0 || box >= BOXES) {
            return NONE;
        }
        boxes[box].copyFrom(now);
        keptBoxes |= 1 << box;
        return now.sundays();
    }

    public int back(int box) {
        if (box < 0 || box >= BOXES || (keptBoxes >> box & 1) == 0) {
            return NONE;
        }
        now.copyFrom(boxes[box]);
        history.restart(now);
        return now.sundays();
    }

    public int about(int what) {
        switch (what) {
            case 0: return told.persons;
            case 1: return told.churches;
            case 2: return told.pairs;
            case 3: return now.sundays();
            case 4: return now.seed();
            case 5: return now.pairsThatAre(WED);
            case 6: return now.pairsThatAre(VOID);
            case 7: return history.done;
            case 8: return history.known - history.done;
            case 9: return sayings.count;
            case 10: return sayings.time;
            case 11: return tape.length;
            case 12: return told.hears.units;
            default: return NONE;
        }
    }

    private void settleIn() {
        parish.town = told;
        now.begin(told);
        history.restart(now);
        sayings.count = 0;
        keptBoxes = 0;
    }

    private boolean isOpen(int pair) {
        return told.hasPair(pair) && now.status(pair) == OPEN;
    }

    private int openWithin(int degree) {
        int count = 0;
        for (int pair = 0; pair < told.pairs; pair++) {
            if (isOpen(pair) && told.family.isWithin(told.pairOne[pair], told.pairOther[pair], degree)) {
                count++;
            }
        }
        return count;
    }

    private static int greatestCommon(int one, int other) {
        int high = one;
        int low = other;
        for (int k = 0; k < 100 && low != 0; k++) {
            int rest = high % low;
            high = low;
            low = rest;
        }
        return high;
    }

    /** The bytes fed, and the reading of them token by token. */
    private static final class Tape {
        static final int MOST = 1600;

        static final int END = 0;
        static final int BAD = 1;
        static final int NAME = 2;
        static final int WORD = 3;
        static final int NUMBER = 4;
        static final int SIGN = 5;

        static final int CHURCH = 0;
        static final int PERSON = 1;
        static final int IN = 2;
        static final int OF = 3;
        static final int AND = 4;
        static final int VOW = 5;
        static final int SAILS = 6;
        static final int KNOWS = 7;
        static final int SPITES = 8;
        static final int PAIR = 9;
        static final int AT = 10;
        static final int HEARS = 11;
        static final int DEGREE = 12;
        static final int CALLS = 13;
        static final int DRAW = 14;
        static final int OR = 15;
        static final int NOT = 16;
        static final int SUNDAY = 17;
        static final int READ = 18;
        static final int SEATED = 19;
        static final int OWN = 20;
        private static final int WORDS = 21;
        private static final String SPELT =
                "church person in of and vow sails knows spites pair at hears degree calls draw or not sunday read seated own";

        private static final String SIGNS = ";()<>=+-*/%";
        private static final int WORD_LETTERS = 8;
        private static final int NUMBER_DIGITS = 4;

        private final byte[] bytes = new byte[MOST];
        private final long[] spelt = new long[WORDS];
        private int at;
        int length;
        int kind;
        int place;
        int value;
        long letters;

        Tape() {
            int word = 0;
            for (int k = 0; k < SPELT.length(); k++) {
                char sign = SPELT.charAt(k);
                if (sign == ' ') {
                    word++;
                } else if (word < WORDS) {
                    spelt[word] = withLetter(spelt[word], sign);
                }
            }
        }

        boolean hasRoom(int more) {
            return length + more <= MOST;
        }

        void put(int number) {
            for (int shift = 24; shift >= 0; shift -= 8) {
                if (length < MOST) {
                    bytes[length] = (byte) (number >> shift);
                    length++;
                }
            }
        }

        void rewind() {
            at = 0;
            advance();
        }

        void advance() {
            while (at < length && isBlank(byteAt(at))) {
                at++;
            }
            place = at;
            value = 0;
            letters = 0;
            int sign = byteAt(at);
            if (sign == NONE) {
                kind = END;
            } else if (isLetter(sign)) {
                takeWord();
            } else if (isDigit(sign)) {
                takeNumber();
            } else {
                takeSign(sign);
            }
        }

        boolean isWord(int word) {
            return kind == WORD && value == word;
        }

        boolean isSign(char sign) {
            return kind == SIGN && value == sign;
        }

        private void takeWord() {
            while (at < length && isLetter(byteAt(at))) {
                letters = withLetter(letters, byteAt(at));
                at++;
            }
            if (at - place > WORD_LETTERS) {
                kind = BAD;
                return;
            }
            kind = NAME;
            for (int word = 0; word < WORDS; word++) {
                if (spelt[word] == letters) {
                    kind = WORD;
                    value = word;
                }
            }
        }

        private void takeNumber() {
            while (at < length && isDigit(byteAt(at))) {
                value = value * 10 + byteAt(at) - '0';
                at++;
            }
            kind = at - place > NUMBER_DIGITS || isLetter(byteAt(at)) ? BAD : NUMBER;
        }

        private void takeSign(int sign) {
            kind = SIGNS.indexOf((char) sign) < 0 ? BAD : SIGN;
            value = sign;
            at++;
        }

        private int byteAt(int index) {
            return index >= 0 && index < length && index < MOST ? bytes[index] & 255 : NONE;
        }

        // Eight letters of five bits each fit a long, so names need no texts of their own.
        private static long withLetter(long letters, int sign) {
            return letters << 5 | (sign - 'a' + 1);
        }

        private static boolean isBlank(int sign) {
            return sign == 32 || sign == 10;
        }

        private static boolean isLetter(int sign) {
            return sign >= 'a' && sign <= 'z';
        }

        private static boolean isDigit(int sign) {
            return sign >= '0' && sign <= '9';
        }
    }

    /** Reads a town from the tape; the first fault met is the first by its place, as each lies at the token met. */
    private static final class Parser {
        private static final int NO_TOKEN = 1;
        private static final int MISPLACED = 2;
        private static final int REPEATED = 3;
        private static final int BAD_NUMBER = 4;
        private static final int UNKNOWN = 5;
        private static final int MOST_KNOWS = 12;
        private static final int MOST_SPITES = 8;
        private static final int TOP_CALLS = 5;
        private static final int TOP_DRAW = 999;
        private static final int TOP_SAILING = 12;
        private static final int MOST_UNITS = 30;
        private static final int DEEPEST = 7;

        private final Tape tape;
        private Town town;
        private int toldOnce;
        int faultKind;
        int faultPlace = NONE;

        Parser(Tape tape, Town town) {
            this.tape = tape;
            this.town = town;
        }

        void begin(Town draft) {
            town = draft;
            town.clear();
            toldOnce = 0;
            faultKind = 0;
            faultPlace = NONE;
            tape.rewind();
        }

        boolean readsLine() {
            if (tape.kind != Tape.WORD) {
                return refuse(MISPLACED);
            }
            boolean sound;
            switch (tape.value) {
                case Tape.CHURCH: sound = churchLine(); break;
                case Tape.PERSON: sound = personLine(); break;
                case Tape.KNOWS: sound = linkLine(town.family.told, MOST_KNOWS); break;
                case Tape.SPITES: sound = linkLine(town.spites, MOST_SPITES); break;
                case Tape.PAIR: sound = pairLine(); break;
                case Tape.HEARS: sound = hearsLine(); break;
                case Tape.DEGREE: sound = settingLine(0, TOP_DEGREE); break;
                case Tape.CALLS: sound = settingLine(1, TOP_CALLS); break;
                case Tape.DRAW: sound = settingLine(0, TOP_DRAW); break;
                default: sound = refuse(MISPLACED); break;
            }
            return sound && sign(';');
        }

        private boolean refuse(int fault) {
            faultKind = tape.kind == Tape.BAD ? NO_TOKEN : fault;
            faultPlace = tape.place;
            return false;
        }

        private boolean churchLine() {
            if (town.churches >= CHURCHES) {
                return refuse(MISPLACED);
            }
            tape.advance();
            if (!isNewName(town.findChurch(tape.letters))) {
                return false;
            }
            town.addChurch(tape.letters);
            tape.advance();
            return true;
        }

        private boolean personLine() {
            if (town.persons >= PERSONS) {
                return refuse(MISPLACED);
            }
            tape.advance();
            if (!isNewName(town.findPerson(tape.letters))) {
                return false;
            }
            long name = tape.letters;
            tape.advance();
            if (!word(Tape.IN)) {
                return false;
            }
            int home = takeChurch();
            if (home == NONE) {
                return false;
            }
            // He is counted only once his line has been read, so he is no parent of his own.
            town.describe(name, home);
            if (!parents() || !vowAndSailing()) {
                return false;
            }
            town.persons++;
            return true;
        }

        private boolean parents() {
            if (!tape.isWord(Tape.OF)) {
                return true;
            }
            tape.advance();
            int first = takePerson(0);
            if (first == NONE) {
                return false;
            }
            town.family.firstParent[town.persons] = first;
            if (!tape.isWord(Tape.AND)) {
                return true;
            }
            tape.advance();
            int second = takePerson(1 << first);
            if (second == NONE) {
                return false;
            }
            town.family.secondParent[town.persons] = second;
            return true;
        }

        private boolean vowAndSailing() {
            if (tape.isWord(Tape.VOW)) {
                town.vows |= 1 << town.persons;
                tape.advance();
            }
            if (!tape.isWord(Tape.SAILS)) {
                return true;
            }
            tape.advance();
            int day = number(1, TOP_SAILING);
            if (day == NONE) {
                return false;
            }
            town.sails[town.persons] = day;
            return true;
        }

        private boolean linkLine(int[] links, int most) {
            int count = 0;
            for (int mask : links) {
                count += Integer.bitCount(mask);
            }
            if (count >= most) {
                return refuse(MISPLACED);
            }
            tape.advance();
            int one = takePerson(0);
            if (one == NONE) {
                return false;
            }
            int other = takePerson(links[one] | 1 << one);
            if (other == NONE) {
                return false;
            }
            links[one] |= 1 << other;
            return true;
        }

        private boolean pairLine() {
            if (town.pairs >= PAIRS) {
                return refuse(MISPLACED);
            }
            tape.advance();
            int one = takePerson(0);
            if (one == NONE) {
                return false;
            }
            int other = takePerson(town.pairedWith(one) | 1 << one);
            return other != NONE && pairPlaces(one, other);
        }

        private boolean pairPlaces(int one, int other) {
            if (!tape.isWord(Tape.AT)) {
                town.addPair(one, other, town.home[one], town.home[other]);
                return true;
            }
            tape.advance();
            int first = takeChurch();
            if (first == NONE) {
                return false;
            }
            int second = takeChurch();
            if (second == NONE) {
                return false;
            }
            town.addPair(one, other, first, second);
            return true;
        }

        private boolean settingLine(int least, int most) {
            int which = tape.value;
            if (!isFirst(which)) {
                return false;
            }
            tape.advance();
            int amount = number(least, most);
            if (amount == NONE) {
                return false;
            }
            town.set(which, amount);
            return true;
        }

        private boolean hearsLine() {
            if (!isFirst(Tape.HEARS)) {
                return false;
            }
            tape.advance();
            return either(0);
        }

        private boolean isFirst(int which) {
            if ((toldOnce >> which & 1) == 1) {
                return refuse(MISPLACED);
            }
            toldOnce |= 1 << which;
            return true;
        }

        private boolean isNewName(int found) {
            if (tape.kind != Tape.NAME) {
                return refuse(MISPLACED);
            }
            return found == NONE || refuse(REPEATED);
        }

        private int takePerson(int repeated) {
            int found = nameHere(town.findPerson(tape.letters));
            if (found == NONE) {
                return NONE;
            }
            if ((repeated >> found & 1) == 1) {
                refuse(REPEATED);
                return NONE;
            }
            tape.advance();
            return found;
        }

        private int takeChurch() {
            int found = nameHere(town.findChurch(tape.letters));
            if (found != NONE) {
                tape.advance();
            }
            return found;
        }

        private int nameHere(int found) {
            if (tape.kind != Tape.NAME) {
                refuse(MISPLACED);
                return NONE;
            }
            if (found == NONE) {
                refuse(UNKNOWN);
            }
            return found;
        }

        private int number(int least, int most) {
            int amount = tape.value;
            if (tape.kind != Tape.NUMBER) {
                refuse(MISPLACED);
                return NONE;
            }
            if (amount < least || amount > most) {
                refuse(BAD_NUMBER);
                return NONE;
            }
            tape.advance();
            return amount;
        }

        private boolean word(int word) {
            if (!tape.isWord(word)) {
                return refuse(MISPLACED);
            }
            tape.advance();
            return true;
        }

        private boolean sign(char sign) {
            if (!tape.isSign(sign)) {
                return refuse(MISPLACED);
            }
            tape.advance();
            return true;
        }

        private boolean either(int depth) {
            boolean sound = both(depth);
            for (int k = 0; k < Tape.MOST && sound && tape.isWord(Tape.OR); k++) {
                tape.advance();
                sound = both(depth);
                town.hears.add(Formula.OR);
            }
            return sound;
        }

        private boolean both(int depth) {
            boolean sound = one(depth);
            for (int k = 0; k < Tape.MOST && sound && tape.isWord(Tape.AND); k++) {
                tape.advance();
                sound = one(depth);
                town.hears.add(Formula.AND);
            }
            return sound;
        }

        private boolean one(int depth) {
            if (!tape.isWord(Tape.NOT)) {
                return relation(depth);
            }
            if (depth >= DEEPEST) {
                return refuse(MISPLACED);
            }
            tape.advance();
            boolean sound = one(depth + 1);
            town.hears.add(Formula.NOT);
            return sound;
        }

        private boolean relation(int depth) {
            if (!sum(depth)) {
                return false;
            }
            if (!tape.isSign('<') && !tape.isSign('>') && !tape.isSign('=')) {
                return true;
            }
            int sign = tape.value;
            tape.advance();
            boolean sound = sum(depth);
            town.hears.add(-sign);
            return sound;
        }

        private boolean sum(int depth) {
            boolean sound = term(depth);
            for (int k = 0; k < Tape.MOST && sound && (tape.isSign('+') || tape.isSign('-')); k++) {
                int sign = tape.value;
                tape.advance();
                sound = term(depth);
                town.hears.add(-sign);
            }
            return sound;
        }

        private boolean term(int depth) {
            boolean sound = unit(depth);
            for (int k = 0; k < Tape.MOST && sound && isTermSign(); k++) {
                int sign = tape.value;
                tape.advance();
                sound = unit(depth);
                town.hears.add(-sign);
            }
            return sound;
        }

        private boolean isTermSign() {
            return tape.isSign('*') || tape.isSign('/') || tape.isSign('%');
        }

        private boolean unit(int depth) {
            int code = leafCode();
            boolean nested = tape.isSign('(');
            if (code == Formula.NOTHING && !nested || town.hears.units >= MOST_UNITS) {
                return refuse(MISPLACED);
            }
            if (nested && depth >= DEEPEST) {
                return refuse(MISPLACED);
            }
            town.hears.units++;
            tape.advance();
            if (nested) {
                return either(depth + 1) && sign(')');
            }
            town.hears.add(code);
            return true;
        }

        private int leafCode() {
            if (tape.kind == Tape.NUMBER) {
                return tape.value;
            }
            if (tape.kind != Tape.WORD) {
                return Formula.NOTHING;
            }
            switch (tape.value) {
                case Tape.SUNDAY: return Formula.SUNDAY;
                case Tape.READ: return Formula.READ;
                case Tape.SEATED: return Formula.SEATED;
                case Tape.OWN: return Formula.OWN;
                default: return Formula.NOTHING;
            }
        }
    }

    /** How well one hears, as codes in the order of their doing; a number stands for itself, a sign for its negative. */
    private static final class Formula {
        static final int NOTHING = -1;
        static final int SUNDAY = -2;
        static final int READ = -3;
        static final int SEATED = -4;
        static final int OWN = -5;
        static final int NOT = -6;
        static final int AND = -7;
        static final int OR = -8;
        // 30 units, fewer joints, and no more than 7 nots ahead of each.
        private static final int MOST_CODES = 300;
        private static final int MOST_VALUES = 40;

        private final int[] codes = new int[MOST_CODES];
        private final int[] values = new int[MOST_VALUES];
        private int length;
        int units;

        void clear() {
            length = 0;
            units = 0;
        }

        void add(int code) {
            if (length < MOST_CODES) {
                codes[length] = code;
                length++;
            }
        }

        boolean isTold() {
            return length > 0;
        }

        int valueFor(int sunday, int read, int seated, int own) {
            int depth = 0;
            for (int k = 0; k < length; k++) {
                int code = codes[k];
                if (code >= OWN && depth < MOST_VALUES) {
                    values[depth] = leaf(code, sunday, read, seated, own);
                    depth++;
                } else if (code == NOT && depth > 0) {
                    values[depth - 1] = truth(values[depth - 1] == 0);
                } else if (depth > 1) {
                    depth--;
                    values[depth - 1] = joined(code, values[depth - 1], values[depth]);
                }
            }
            return depth > 0 ? values[depth - 1] : 0;
        }

        private static int leaf(int code, int sunday, int read, int seated, int own) {
            switch (code) {
                case SUNDAY: return sunday;
                case READ: return read;
                case SEATED: return seated;
                case OWN: return own;
                default: return code;
            }
        }

        private static int joined(int code, int left, int right) {
            switch (code) {
                case OR: return truth(left != 0 || right != 0);
                case AND: return truth(left != 0 && right != 0);
                case -'<': return truth(left < right);
                case -'>': return truth(left > right);
                case -'=': return truth(left == right);
                case -'+': return left + right;
                case -'-': return left - right;
                case -'*': return left * right;
                case -'/': return right == 0 ? 0 : left / right;
                case -'%': return right == 0 ? 0 : left % right;
                default: return 0;
            }
        }

        private static int truth(boolean is) {
            return is ? 1 : 0;
        }
    }

    /** All that a text tells, and that no act changes. */
    private static final class Town {
        private static final int USUAL_DEGREE = 4;
        private static final int USUAL_CALLS = 2;

        private final long[] churchNames = new long[CHURCHES];
        private final long[] personNames = new long[PERSONS];
        final int[] home = new int[PERSONS];
        final int[] sails = new int[PERSONS];
        final int[] spites = new int[PERSONS];
        final int[] pairOne = new int[PAIRS];
        final int[] pairOther = new int[PAIRS];
        final int[] churchOne = new int[PAIRS];
        final int[] churchOther = new int[PAIRS];
        final Family family = new Family();
        final Formula hears = new Formula();
        int churches;
        int persons;
        int pairs;
        int vows;
        int degree = USUAL_DEGREE;
        int calls = USUAL_CALLS;
        int draw;

        void clear() {
            churches = 0;
            persons = 0;
            pairs = 0;
            vows = 0;
            degree = USUAL_DEGREE;
            calls = USUAL_CALLS;
            draw = 0;
            hears.clear();
            family.clear();
            Arrays.fill(sails, 0);
            Arrays.fill(spites, 0);
        }

        boolean hasChurch(int church) {
            return church >= 0 && church < churches;
        }

        boolean hasPerson(int person) {
            return person >= 0 && person < persons;
        }

        boolean hasPair(int pair) {
            return pair >= 0 && pair < pairs;
        }

        int findChurch(long name) {
            return find(churchNames, churches, name);
        }

        int findPerson(long name) {
            return find(personNames, persons, name);
        }

        int pairedWith(int person) {
            int mask = 0;
            for (int pair = 0; pair < pairs; pair++) {
                if ((pairMask(pair) >> person & 1) == 1) {
                    mask |= pairMask(pair);
                }
            }
            return mask;
        }

        int pairMask(int pair) {
            return 1 << pairOne[pair] | 1 << pairOther[pair];
        }

        void addChurch(long name) {
            if (churches < CHURCHES) {
                churchNames[churches] = name;
                churches++;
            }
        }

        void describe(long name, int church) {
            if (persons < PERSONS) {
                personNames[persons] = name;
                home[persons] = church;
            }
        }

        void addPair(int one, int other, int church, int second) {
            if (pairs < PAIRS) {
                pairOne[pairs] = one;
                pairOther[pairs] = other;
                churchOne[pairs] = church;
                churchOther[pairs] = second;
                pairs++;
            }
        }

        void set(int which, int amount) {
            switch (which) {
                case Tape.DEGREE: degree = amount; break;
                case Tape.CALLS: calls = amount; break;
                default: draw = amount; break;
            }
        }

        boolean isAway(int person, int sunday) {
            return sails[person] > 0 && sunday >= sails[person];
        }

        boolean isPairAway(int pair, int sunday) {
            return isAway(pairOne[pair], sunday) || isAway(pairOther[pair], sunday);
        }

        private static int find(long[] names, int count, long name) {
            for (int k = 0; k < count && k < names.length; k++) {
                if (names[k] == name) {
                    return k;
                }
            }
            return NONE;
        }
    }

    /** Parents, whom one knows, and how near two are. */
    private static final class Family {
        final int[] firstParent = new int[PERSONS];
        final int[] secondParent = new int[PERSONS];
        final int[] told = new int[PERSONS];
        final int[] knows = new int[PERSONS];
        private final int[] steps = new int[PERSONS * PERSONS];
        private final int[] degrees = new int[PERSONS * PERSONS];

        void clear() {
            Arrays.fill(firstParent, NONE);
            Arrays.fill(secondParent, NONE);
            Arrays.fill(told, 0);
        }

        // Parents are told ahead of their children, so their own steps up are known by then.
        void close(int persons) {
            Arrays.fill(steps, NONE);
            System.arraycopy(told, 0, knows, 0, PERSONS);
            for (int person = 0; person < persons; person++) {
                steps[person * PERSONS + person] = 0;
                bind(person, firstParent[person]);
                bind(person, secondParent[person]);
            }
            for (int one = 0; one < PERSONS; one++) {
                for (int other = 0; other < PERSONS; other++) {
                    degrees[one * PERSONS + other] = fewestSteps(one, other);
                }
            }
        }

        private void bind(int person, int parent) {
            if (parent < 0 || parent >= person) {
                return;
            }
            knows[person] |= 1 << parent;
            knows[parent] |= 1 << person;
            for (int ancestor = 0; ancestor < PERSONS; ancestor++) {
                int above = steps[parent * PERSONS + ancestor];
                int index = person * PERSONS + ancestor;
                if (above != NONE && (steps[index] == NONE || above + 1 < steps[index])) {
                    steps[index] = above + 1;
                }
            }
        }

        int ancestorsOf(int person) {
            int mask = 0;
            for (int ancestor = 0; ancestor < PERSONS; ancestor++) {
                if (steps[person * PERSONS + ancestor] != NONE) {
                    mask |= 1 << ancestor;
                }
            }
            return mask;
        }

        private int fewestSteps(int one, int other) {
            int least = NONE;
            for (int ancestor = 0; ancestor < PERSONS; ancestor++) {
                int up = steps[one * PERSONS + ancestor];
                int down = steps[other * PERSONS + ancestor];
                if (up != NONE && down != NONE && (least == NONE || up + down < least)) {
                    least = up + down;
                }
            }
            return least;
        }

        int degreeOf(int one, int other) {
            return degrees[one * PERSONS + other];
        }

        boolean isWithin(int one, int other, int degree) {
            int near = degrees[one * PERSONS + other];
            return near != NONE && near <= degree;
        }

        int knownBy(int person) {
            int mask = 0;
            for (int knower = 0; knower < PERSONS; knower++) {
                mask |= (knows[knower] >> person & 1) << knower;
            }
            return mask;
        }
    }

    /** All that acts change, in one row, so that keeping a state is a copy. */
    private static final class State {
        private static final int SEATS = 0;
        private static final int STATUSES = SEATS + PERSONS;
        private static final int FIRST_CHURCHES = STATUSES + PAIRS;
        private static final int SECOND_CHURCHES = FIRST_CHURCHES + PAIRS;
        private static final int READINGS = SECOND_CHURCHES + PAIRS;
        private static final int SUNDAYS = READINGS + PAIRS;
        private static final int SEED = SUNDAYS + 1;
        static final int SIZE = SEED + 1;

        final int[] cells = new int[SIZE];

        void begin(Town town) {
            Arrays.fill(cells, 0);
            System.arraycopy(town.home, 0, cells, SEATS, PERSONS);
            System.arraycopy(town.churchOne, 0, cells, FIRST_CHURCHES, PAIRS);
            System.arraycopy(town.churchOther, 0, cells, SECOND_CHURCHES, PAIRS);
            cells[SEED] = town.draw;
        }

        void copyFrom(State other) {
            System.arraycopy(other.cells, 0, cells, 0, SIZE);
        }

        int seat(int person) {
            return cells[SEATS + person];
        }

        void setSeat(int person, int church) {
            cells[SEATS + person] = church;
        }

        int status(int pair) {
            return cells[STATUSES + pair];
        }

        void setStatus(int pair, int status) {
            cells[STATUSES + pair] = status;
        }

        int pairsThatAre(int status) {
            int mask = 0;
            for (int pair = 0; pair < PAIRS; pair++) {
                if (status(pair) == status) {
                    mask |= 1 << pair;
                }
            }
            return mask;
        }

        int churchOne(int pair) {
            return cells[FIRST_CHURCHES + pair];
        }

        int churchOther(int pair) {
            return cells[SECOND_CHURCHES + pair];
        }

        boolean isReadIn(int pair, int church) {
            return churchOne(pair) == church || churchOther(pair) == church;
        }

        void setChurches(int pair, int church, int other) {
            cells[FIRST_CHURCHES + pair] = church;
            cells[SECOND_CHURCHES + pair] = other;
        }

        int readings(int pair) {
            return cells[READINGS + pair];
        }

        void addReading(int pair) {
            cells[READINGS + pair]++;
        }

        int sundays() {
            return cells[SUNDAYS];
        }

        int nextSunday() {
            return cells[SUNDAYS] + 1;
        }

        void endSunday() {
            cells[SUNDAYS]++;
        }

        int seed() {
            return cells[SEED];
        }

        int drawTenth() {
            cells[SEED] = (cells[SEED] * 137 + 71) % 1000;
            return cells[SEED] % 10;
        }
    }

    /** What a town makes of a state: who is barred, would rise, is called and hears. */
    private static final class Parish {
        /** Odds are told as parts of this, which eight tenths divide without a rest. */
        static final int CERTAIN = 100000000;

        private final int[] callsHad = new int[CHURCHES];
        Town town;

        Parish(Town town) {
            this.town = town;
        }

        int spouseOf(State state, int person) {
            for (int pair = 0; pair < town.pairs; pair++) {
                if (state.status(pair) == WED && town.pairOne[pair] == person) {
                    return town.pairOther[pair];
                }
                if (state.status(pair) == WED && town.pairOther[pair] == person) {
                    return town.pairOne[pair];
                }
            }
            return NONE;
        }

        private int wedBeside(State state, int exceptPair) {
            int wed = 0;
            for (int pair = 0; pair < town.pairs; pair++) {
                if (pair != exceptPair && state.status(pair) == WED) {
                    wed |= town.pairMask(pair);
                }
            }
            return wed;
        }

        int barOf(State state, int pair) {
            return barBetween(state, town.pairOne[pair], town.pairOther[pair], pair);
        }

        int barBetween(State state, int one, int other, int exceptPair) {
            int two = 1 << one | 1 << other;
            if (town.family.isWithin(one, other, town.degree)) {
                return BARRED_BY_KIN;
            }
            if ((town.vows & two) != 0) {
                return BARRED_BY_VOW;
            }
            return (wedBeside(state, exceptPair) & two) != 0 ? BARRED_BY_WEDDING : 0;
        }

        int risersOf(State state, int pair) {
            boolean barred = barBetween(state, town.pairOne[pair], town.pairOther[pair], pair) != 0;
            int two = town.pairMask(pair);
            int risers = 0;
            for (int person = 0; person < town.persons; person++) {
                boolean spites = (town.spites[person] & two) != 0;
                boolean knows = (town.family.knows[person] & two) != 0;
                if (spites || barred && knows) {
                    risers |= 1 << person;
                }
            }
            return risers & ~two;
        }

        int sittersIn(State state, int church) {
            int sitters = 0;
            for (int person = 0; person < town.persons; person++) {
                if (state.seat(person) == church) {
                    sitters |= 1 << person;
                }
            }
            return sitters;
        }

        private int presentIn(State state, int church, int other) {
            int present = 0;
            for (int person = 0; person < town.persons; person++) {
                int seat = state.seat(person);
                if ((seat == church || seat == other) && !town.isAway(person, state.nextSunday())) {
                    present |= 1 << person;
                }
            }
            return present;
        }

        int calledNext(State state) {
            Arrays.fill(callsHad, 0);
            int called = 0;
            for (int pair = 0; pair < town.pairs; pair++) {
                if (state.status(pair) == OPEN && !town.isPairAway(pair, state.nextSunday())
                        && takesCall(state.churchOne(pair), state.churchOther(pair))) {
                    called |= 1 << pair;
                }
            }
            return called;
        }

        private boolean takesCall(int church, int other) {
            if (callsHad[church] >= town.calls || callsHad[other] >= town.calls) {
                return false;
            }
            callsHad[church]++;
            if (other != church) {
                callsHad[other]++;
            }
            return true;
        }

        int readIn(State state, int church, int called) {
            int read = 0;
            for (int pair = 0; pair < town.pairs; pair++) {
                if ((called >> pair & 1) == 1 && state.isReadIn(pair, church)) {
                    read |= 1 << pair;
                }
            }
            return read;
        }

        int earOf(State state, int person, int called) {
            if (!town.hears.isTold()) {
                return KEENEST;
            }
            int church = state.seat(person);
            int read = Integer.bitCount(readIn(state, church, called));
            int seated = Integer.bitCount(presentIn(state, church, church));
            int own = church == town.home[person] ? 1 : 0;
            int value = town.hears.valueFor(state.nextSunday(), read, seated, own);
            return Math.max(0, Math.min(KEENEST, value));
        }

        int hearersOf(State state, int pair) {
            int listeners = risersOf(state, pair) & presentIn(state, state.churchOne(pair), state.churchOther(pair));
            int called = calledNext(state);
            int hearers = 0;
            for (int person = 0; person < town.persons; person++) {
                if ((listeners >> person & 1) == 1 && earOf(state, person, called) > 0) {
                    hearers |= 1 << person;
                }
            }
            return hearers;
        }

        int quietOf(State state, int pair, int church, int other) {
            int listeners = risersOf(state, pair) & presentIn(state, church, other);
            int called = calledNext(state);
            int odds = CERTAIN;
            for (int person = 0; person < town.persons; person++) {
                if ((listeners >> person & 1) == 1) {
                    odds = odds / KEENEST * (KEENEST - earOf(state, person, called));
                }
            }
            return odds;
        }

        int keepSunday(State state) {
            int called = calledNext(state);
            int wed = 0;
            for (int pair = 0; pair < town.pairs; pair++) {
                if ((called >> pair & 1) == 1 && isWedWhenRead(state, pair, called)) {
                    wed |= 1 << pair;
                }
            }
            state.endSunday();
            return wed;
        }

        private boolean isWedWhenRead(State state, int pair, int called) {
            if (isRisenAgainst(state, pair, called)) {
                state.setStatus(pair, VOID);
                return false;
            }
            state.addReading(pair);
            if (state.readings(pair) < READINGS_DUE || (wedBeside(state, pair) & town.pairMask(pair)) != 0) {
                return false;
            }
            state.setStatus(pair, WED);
            return true;
        }

        private boolean isRisenAgainst(State state, int pair, int called) {
            int listeners = risersOf(state, pair) & presentIn(state, state.churchOne(pair), state.churchOther(pair));
            for (int person = 0; person < town.persons; person++) {
                if ((listeners >> person & 1) == 1 && state.drawTenth() < earOf(state, person, called)) {
                    return true;
                }
            }
            return false;
        }
    }

    /** The states between the acts that are kept, in a ring whose oldest gives way. */
    private static final class History {
        private static final int MOST_ACTS = 40;
        private static final int ROWS = MOST_ACTS + 1;

        private final int[][] rows = new int[ROWS][State.SIZE];
        private int oldest;
        int done;
        int known;

        void restart(State state) {
            oldest = 0;
            done = 0;
            known = 0;
            System.arraycopy(state.cells, 0, rows[0], 0, State.SIZE);
        }

        void add(State state) {
            if (done < MOST_ACTS) {
                done++;
            } else {
                oldest = (oldest + 1) % ROWS;
            }
            known = done;
            System.arraycopy(state.cells, 0, rows[(oldest + done) % ROWS], 0, State.SIZE);
        }

        boolean stepBack(State state) {
            if (done == 0) {
                return false;
            }
            done--;
            load(state);
            return true;
        }

        boolean stepOn(State state) {
            if (done == known) {
                return false;
            }
            done++;
            load(state);
            return true;
        }

        private void load(State state) {
            System.arraycopy(rows[(oldest + done) % ROWS], 0, state.cells, 0, State.SIZE);
        }
    }

    /** Finds the most open pairs that can be read out in time. What is still due of each pair is two bits of a plan. */
    private static final class Season {
        private static final int SUNDAYS_MORE = 12;
        private static final int BITS = 32;
        private static final int PLANS = 1 << 2 * PAIRS;
        private static final int SETS = 1 << PAIRS;

        private int[] reached = new int[PLANS / BITS];
        private int[] following = new int[PLANS / BITS];
        private int fitting;

        int bestSet(Town town, State state) {
            weighSets(town, state);
            int open = openPairs(town, state);
            Arrays.fill(reached, 0);
            mark(reached, readingsDue(state, open));
            for (int k = 0; k < SUNDAYS_MORE && !isMarked(reached, 0); k++) {
                passSunday(presentPairs(town, open, state.nextSunday() + k));
            }
            int best = 0;
            for (int due = 0; due < PLANS; due++) {
                if (isMarked(reached, due)) {
                    best = better(best, open & ~unfinished(due));
                }
            }
            return best;
        }

        private static void mark(int[] plans, int due) {
            int index = due / BITS;
            if (index >= 0 && index < plans.length) {
                plans[index] |= 1 << due % BITS;
            }
        }

        private static boolean isMarked(int[] plans, int due) {
            int index = due / BITS;
            return index >= 0 && index < plans.length && (plans[index] >> due % BITS & 1) == 1;
        }

        private static int better(int best, int set) {
            int more = Integer.bitCount(set) - Integer.bitCount(best);
            return more > 0 || more == 0 && set < best ? set : best;
        }

        private static int openPairs(Town town, State state) {
            int open = 0;
            for (int pair = 0; pair < town.pairs; pair++) {
                if (state.status(pair) == OPEN) {
                    open |= 1 << pair;
                }
            }
            return open;
        }

        private static int readingsDue(State state, int open) {
            int due = 0;
            for (int pair = 0; pair < PAIRS; pair++) {
                if ((open >> pair & 1) == 1) {
                    due |= Math.max(0, READINGS_DUE - state.readings(pair)) << 2 * pair;
                }
            }
            return due & PLANS - 1;
        }

        private static int presentPairs(Town town, int open, int sunday) {
            int present = open;
            for (int pair = 0; pair < town.pairs; pair++) {
                if (town.isPairAway(pair, sunday)) {
                    present &= ~(1 << pair);
                }
            }
            return present;
        }

        private void weighSets(Town town, State state) {
            fitting = 0;
            for (int set = 0; set < SETS; set++) {
                boolean room = true;
                for (int church = 0; church < town.churches; church++) {
                    room &= callsIn(town, state, set, church) <= town.calls;
                }
                fitting |= room ? 1 << set : 0;
            }
        }

        private boolean fits(int set) {
            return (fitting >> set & 1) == 1;
        }

        private static int callsIn(Town town, State state, int set, int church) {
            int calls = 0;
            for (int pair = 0; pair < town.pairs; pair++) {
                if ((set >> pair & 1) == 1 && state.isReadIn(pair, church)) {
                    calls++;
                }
            }
            return calls;
        }

        private void passSunday(int present) {
            Arrays.fill(following, 0);
            for (int index = 0; index < reached.length; index++) {
                int plans = reached[index];
                for (int bit = 0; bit < BITS && plans != 0; bit++) {
                    if ((plans >> bit & 1) == 1) {
                        int due = index * BITS + bit;
                        readFrom(due, present & unfinished(due));
                    }
                }
            }
            int[] spent = reached;
            reached = following;
            following = spent;
        }

        // Reading one more pair never harms, so only sets that no further pair fits need a look.
        private void readFrom(int due, int readable) {
            for (int set = 0; set < SETS; set++) {
                if ((set & ~readable) == 0 && fits(set) && isFull(set, readable)) {
                    mark(following, due - ones(set));
                }
            }
        }

        private boolean isFull(int set, int readable) {
            for (int pair = 0; pair < PAIRS; pair++) {
                int bit = 1 << pair;
                if ((readable & ~set & bit) != 0 && fits(set | bit)) {
                    return false;
                }
            }
            return true;
        }

        private static int ones(int set) {
            int spread = 0;
            for (int pair = 0; pair < PAIRS; pair++) {
                spread |= (set >> pair & 1) << 2 * pair;
            }
            return spread;
        }

        private static int unfinished(int due) {
            int set = 0;
            for (int pair = 0; pair < PAIRS; pair++) {
                if ((due >> 2 * pair & 3) != 0) {
                    set |= 1 << pair;
                }
            }
            return set;
        }
    }

    /** What was said of the one who meant to rise, and when it was told and untold. */
    private static final class Said {
        static final int SITS = 0;
        static final int KNOWS = 1;
        static final int KIN = 2;
        private static final int MOST = 30;
        private static final int LONGEST_WAIT = 1000;
        private static final int LAST_TIME = 100000;

        private final int[] sorts = new int[MOST];
        private final int[] subjects = new int[MOST];
        private final int[] degrees = new int[MOST];
        private final boolean[] affirmed = new boolean[MOST];
        private final int[] toldAt = new int[MOST];
        private final int[] untoldAt = new int[MOST];
        int count;
        int time;

        int tell(int sort, int subject, int degree, boolean is) {
            if (count >= MOST) {
                return NONE;
            }
            sorts[count] = sort;
            subjects[count] = subject;
            degrees[count] = degree;
            affirmed[count] = is;
            toldAt[count] = time;
            untoldAt[count] = NONE;
            count++;
            return count - 1;
        }

        boolean takeBack(int number) {
            if (number < 0 || number >= count || untoldAt[number] != NONE) {
                return false;
            }
            untoldAt[number] = time;
            return true;
        }

        int passTime(int by) {
            if (by < 0 || by > LONGEST_WAIT || time + by > LAST_TIME) {
                return NONE;
            }
            time += by;
            return time;
        }

        int fitting(Town town, State state, int moment) {
            int left = 0;
            for (int person = 0; person < town.persons; person++) {
                if (isFitting(town, state, person, moment)) {
                    left |= 1 << person;
                }
            }
            return left;
        }

        private boolean isFitting(Town town, State state, int person, int moment) {
            for (int number = 0; number < count; number++) {
                if (counts(number, moment) && isSo(town, state, number, person) != affirmed[number]) {
                    return false;
                }
            }
            return true;
        }

        private boolean counts(int number, int moment) {
            boolean untold = untoldAt[number] != NONE && untoldAt[number] <= moment;
            return toldAt[number] <= moment && !untold;
        }

        private boolean isSo(Town town, State state, int number, int person) {
            int subject = subjects[number];
            switch (sorts[number]) {
                case SITS: return state.seat(person) == subject;
                case KNOWS: return (town.family.knows[person] >> subject & 1) == 1;
                default: return town.family.isWithin(person, subject, degrees[number]);
            }
        }
    }
}
