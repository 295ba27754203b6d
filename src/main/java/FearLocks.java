/** A city whose locks give way to somebody who is afraid of just one thing. */
public final class FearLocks {
    public static final int NONE = -1;

    /** What is told where a call is right but there is nothing to tell. */
    private static final int NOTHING = -2;
    /** What is told where the bytes on the tape can't be what they should. */
    private static final int MISFIT = -3;

    private static final int PEOPLE = 12;
    private static final int FEARS = 16;
    private static final int ALL_FEARS = 65535;
    private static final int DOORS = 16;
    private static final int DREAD_MOST = 99;
    private static final int OPENED_MOST = 9999;
    private static final int NIGHT_MOST = 9999;
    private static final int WISH_MOST = 9999;
    private static final int SEED_MOST = 65535;
    private static final int UNLIKE_MOST = FEARS * DREAD_MOST;

    private static final int TAPE_MOST = 260;
    private static final int FEED_BYTES = 20;
    private static final int TEXT_MOST = 120;
    private static final int LAW_MOST = 240;
    private static final int DREAD_LINES = 20;
    private static final int ORDER_LINES = 16;
    private static final int RULES_MOST = 16;
    private static final int NIGHTS_MOST = 100;
    private static final int TRIES_MOST = 12;
    private static final int GUARDS_LEAST = 3;
    private static final int GUARDS_MOST = 6;
    private static final int ROOMS_MOST = 12;
    private static final int LETTERS_MOST = 8;

    private static final int FAULT_GRAMMAR = 1;
    private static final int FAULT_DIGITS = 2;
    private static final int FAULT_DOOR = 3;
    private static final int FAULT_LINES = 4;
    private static final int FAULT_OPEN = 5;
    private static final int FAULT_TWICE = 6;
    private static final int FAULT_UNTOLD = 7;

    private final Tape tape = new Tape();
    private final City city = new City();
    /** What a TEXT or tried NIGHTS change first, so that the city itself can stay as it is. */
    private final City draft = new City();
    private final City kept = new City();
    private boolean everKept = false;
    private Law inForce = new Law();
    /** A new LAW is written here, so that the one in force stays if the new one has a FAULT. */
    private Law spare = new Law();
    private final Nightfall nightfall = new Nightfall();
    private final Keys keys = new Keys();
    private final Company company = new Company();
    private final Pastimes pastimes = new Pastimes();

    public FearLocks() {
    }

    public int feed(int a, int b, int c, int d, int e) {
        if (tape.size > TAPE_MOST - FEED_BYTES) {
            return NONE;
        }
        tape.append(a);
        tape.append(b);
        tape.append(c);
        tape.append(d);
        tape.append(e);
        return tape.size;
    }

    public int law(int n) {
        if (!tape.holds(n, 1, LAW_MOST)) {
            return NONE;
        }
        tape.take(n);
        spare.clear();
        int answer = new LawReader(tape, spare).readLines(RULES_MOST);
        if (answer > 0) {
            Law before = inForce;
            inForce = spare;
            spare = before;
        }
        return answer;
    }

    public int dreads(int p, int n) {
        if (p < 0 || p >= PEOPLE || !tape.holds(n, 1, TEXT_MOST)) {
            return NONE;
        }
        tape.take(n);
        draft.copyFrom(city);
        int answer = new DreadsReader(tape, draft, p).readLines(DREAD_LINES);
        if (answer > 0) {
            city.copyFrom(draft);
        }
        return answer;
    }

    public int orders(int n) {
        if (!tape.holds(n, 1, TEXT_MOST)) {
            return NONE;
        }
        tape.take(n);
        draft.copyFrom(city);
        int answer = new OrdersReader(tape, draft).readLines(ORDER_LINES);
        if (answer > 0) {
            city.copyFrom(draft);
        }
        return answer;
    }

    public int nights(int n) {
        if (n < 1 || n > NIGHTS_MOST) {
            return NONE;
        }
        nightfall.pass(city, inForce, n);
        return nightfall.openings;
    }

    public int tried(int n, int what) {
        if (n < 1 || n > NIGHTS_MOST || !canBeTried(what)) {
            return NONE;
        }
        draft.copyFrom(city);
        nightfall.pass(draft, inForce, n);
        if (what == 0) {
            return nightfall.openings;
        }
        if (what == 1) {
            return nightfall.failures;
        }
        if (what < 30) {
            return draft.fearOf(what - 10);
        }
        if (what < 50) {
            return draft.greatestDread(what - 30);
        }
        return draft.openedOf(what - 50);
    }

    private boolean canBeTried(int what) {
        if (what < 0 || what > 50 + DOORS) {
            return false;
        }
        if (what < 10) {
            return what <= 1;
        }
        if (what < 50) {
            return city.isPerson(what < 30 ? what - 10 : what - 30);
        }
        return city.isDoor(what - 50);
    }

    public int personIs(int p, int what) {
        if (!city.isPerson(p)) {
            return NONE;
        }
        if (what >= 0 && what < FEARS) {
            return city.dreadOf(p, what);
        }
        switch (what) {
            case 100:
                return city.fearOf(p);
            case 101:
                return city.greatestDread(p);
            case 102:
                return city.knownTo(p);
            case 103:
                return city.doorsOpenTo(p);
            case 104:
                return city.dreadInAll(p);
            default:
                return NONE;
        }
    }

    public int doorIs(int d, int what) {
        if (!city.isDoor(d)) {
            return NONE;
        }
        switch (what) {
            case 0:
                return city.doorFear[d];
            case 1:
                return city.strength[d];
            case 2:
                return city.opened[d];
            case 3:
                return city.openersOf(d);
            default:
                return NONE;
        }
    }

    public int taught(int p, int d) {
        if (!city.isPerson(p) || !city.isDoor(d)) {
            return NONE;
        }
        return Keys.lessons(city, p, d);
    }

    public int crew(int what) {
        if (what < 0 || what > 1) {
            return NONE;
        }
        int who = keys.fewestForAllDoors(city);
        if (who < 0) {
            return NOTHING;
        }
        return what == 0 ? Integer.bitCount(who) : who;
    }

    public int lodgings() {
        return Keys.mostLet(city);
    }

    public int couples(int much) {
        if (much < 1 || much > DREAD_MOST) {
            return NONE;
        }
        return company.mostCouples(city, much);
    }

    public int fashion(int f, int least, int what) {
        if (f < 0 || f >= FEARS || least < 1 || least >= PEOPLE || what < 0 || what > 1) {
            return NONE;
        }
        int who = city.havingFear(f);
        int rounds = 0;
        int grown = Company.grownFashion(city, who, least);
        while (grown != who && rounds < PEOPLE) {
            rounds++;
            who = grown;
            grown = Company.grownFashion(city, who, least);
        }
        return what == 0 ? who : rounds;
    }

    public int fears(int what) {
        if (what < 0 || what > 1) {
            return NONE;
        }
        return what == 0 ? city.nobodysFears() : city.allsFears();
    }

    public int unlike(int p, int q) {
        if (!city.isPerson(p) || !city.isPerson(q)) {
            return NONE;
        }
        return Company.difference(city, p, q);
    }

    public int mostLike(int p) {
        if (!city.isPerson(p)) {
            return NONE;
        }
        return Company.nearestTo(city, p);
    }

    public int circles(int much, int what) {
        if (much < 0 || much > UNLIKE_MOST || (what != 100 && !city.isPerson(what))) {
            return NONE;
        }
        company.linkAlike(city, much);
        return what == 100 ? company.circlesOf(city.people) : company.circleOf(what, city.people);
    }

    public int keystones() {
        return Company.holdersTogether(city);
    }

    public int steps(int p, int q) {
        if (!city.isPerson(p) || !city.isPerson(q)) {
            return NONE;
        }
        return Company.stepsBetween(city, p, q);
    }

    public int guess(int n, int what) {
        boolean asksLeast = what >= 0 && what < FEARS;
        boolean asksGreatest = what >= 20 && what < 20 + FEARS;
        if (!asksLeast && !asksGreatest && what != 100) {
            return NONE;
        }
        if (n < 1 || n > TRIES_MOST || !tape.holds(2 * n, 2, 2 * TRIES_MOST)) {
            return NONE;
        }
        tape.take(2 * n);
        if (!Keys.triesFit(tape, city, n)) {
            return MISFIT;
        }
        if (what == 100) {
            return Keys.possibleFears(tape, city, n);
        }
        int fear = asksLeast ? what : what - 20;
        int least = Keys.leastStrength(tape, city, n, fear);
        int greatest = Keys.greatestStrength(tape, city, n, fear);
        if (least > greatest) {
            return NOTHING;
        }
        return asksLeast ? least : greatest;
    }

    public int sentNext(int fears, int what) {
        if (fears < 1 || fears > ALL_FEARS || what < 0 || what > 1) {
            return NONE;
        }
        int who = Keys.bestToSend(city, fears);
        if (who < 0) {
            return NOTHING;
        }
        return what == 0 ? who : Keys.leftAtWorst(city, fears, who);
    }

    public int guards(int n) {
        if (!tape.holds(n, GUARDS_LEAST, GUARDS_MOST)) {
            return NONE;
        }
        tape.take(n);
        return pastimes.waysToStand(tape, city, n);
    }

    public long word(int letters, int fears, int weight) {
        if (letters < 1 || letters > LETTERS_MOST || fears < 0 || fears > ALL_FEARS) {
            return NONE;
        }
        if (weight < 0 || weight > LETTERS_MOST * FEARS) {
            return NONE;
        }
        return pastimes.wordsWeighing(letters, fears, weight);
    }

    public int rooms(int n, int dread) {
        if (dread < 0 || dread > DREAD_MOST || !tape.holds(n, 1, ROOMS_MOST)) {
            return NONE;
        }
        tape.take(n);
        for (int i = 0; i < n; i++) {
            if (tape.byteAt(i) >= FEARS) {
                return MISFIT;
            }
        }
        return Pastimes.leastDreadBehindRooms(tape, n, dread);
    }

    public boolean seed(int x) {
        if (x < 0 || x > SEED_MOST) {
            return false;
        }
        city.x = x;
        return true;
    }

    public int keep() {
        kept.copyFrom(city);
        everKept = true;
        return city.night;
    }

    public boolean undo() {
        if (!everKept) {
            return false;
        }
        city.goBackTo(kept);
        return true;
    }

    public int check(int n) {
        if (!tape.holds(n, 0, PEOPLE)) {
            return NOTHING;
        }
        tape.take(n);
        for (int p = 0; p < n; p++) {
            int right = city.isPerson(p) ? city.greatestDread(p) : 255;
            if (tape.byteAt(p) != right) {
                return p;
            }
        }
        return NONE;
    }

    public int count(int what) {
        switch (what) {
            case 0:
                return city.night;
            case 1:
                return city.people;
            case 2:
                return city.doors;
            case 3:
                return city.acquaintances();
            case 4:
                return city.openedInAll();
            case 5:
                return inForce.rules;
            case 6:
                return tape.size;
            case 7:
                return city.x;
            default:
                return NONE;
        }
    }

    private static int bounded(int value, int least, int most) {
        return Math.max(least, Math.min(most, value));
    }

    private static boolean has(int bits, int bit) {
        return bit >= 0 && bit < 32 && (bits >> bit & 1) != 0;
    }

    /** The bytes that were fed, and the place at which a TEXT of them is being read. */
    private static final class Tape {
        /** What is read where no byte is left. */
        private static final int END = -1;

        private final int[] bytes = new int[TAPE_MOST];
        private int size = 0;
        private int end = 0;
        private int at = 0;
        /** What the call answers for the FAULT; 0 as long as there is none. */
        private int fault = 0;

        void append(int four) {
            for (int shift = 24; shift >= 0; shift -= 8) {
                if (size >= 0 && size < bytes.length) {
                    bytes[size] = four >> shift & 255;
                    size++;
                }
            }
        }

        boolean holds(int n, int least, int most) {
            return n >= least && n <= most && n <= size;
        }

        /** Empties the tape; its first n bytes can be read until it is fed again. */
        void take(int n) {
            end = n;
            at = 0;
            fault = 0;
            size = 0;
        }

        int byteAt(int place) {
            if (place < 0 || place >= end || place >= bytes.length) {
                return END;
            }
            return bytes[place];
        }

        int now() {
            return at >= 0 && at < end && at < bytes.length ? bytes[at] : END;
        }

        /** False, so that a reader can hand the FAULT on as it leaves. */
        boolean fail(int number, int place) {
            fault = -1000 * number - place;
            return false;
        }

        boolean cannotStand() {
            return fail(FAULT_GRAMMAR, at);
        }

        boolean expect(int sign) {
            if (now() != sign) {
                return fail(FAULT_GRAMMAR, at);
            }
            at++;
            return true;
        }

        /** The number that stands here; -1 behind a FAULT. */
        int readNumber(int digits) {
            if (!isDigit(now())) {
                fail(FAULT_GRAMMAR, at);
                return -1;
            }
            int first = at;
            int value = 0;
            while (at < end && isDigit(now())) {
                if (at - first >= digits) {
                    fail(FAULT_DIGITS, at);
                    return -1;
                }
                value = 10 * value + (now() - '0');
                at++;
            }
            return value;
        }

        static boolean isDigit(int sign) {
            return sign >= '0' && sign <= '9';
        }

        static boolean isFear(int sign) {
            return sign >= 'a' && sign < 'a' + FEARS;
        }
    }

    /** What is told of PEOPLE and DOORS, and how far the nights have gone. */
    private static final class City {
        private final int[][] dread = new int[PEOPLE][FEARS];
        private final int[] knows = new int[PEOPLE];
        private final int[] doorFear = new int[DOORS];
        private final int[] strength = new int[DOORS];
        private final int[] opened = new int[DOORS];
        private int people = 0;
        private int doors = 0;
        private int night = 0;
        private int x = 1;

        boolean isPerson(int p) {
            return p >= 0 && p < PEOPLE && has(people, p);
        }

        boolean isDoor(int d) {
            return d >= 0 && d < DOORS && has(doors, d);
        }

        int dreadOf(int p, int f) {
            if (p < 0 || p >= PEOPLE || f < 0 || f >= FEARS) {
                return 0;
            }
            return dread[p][f];
        }

        void setDread(int p, int f, int value) {
            if (p >= 0 && p < PEOPLE && f >= 0 && f < FEARS) {
                dread[p][f] = bounded(value, 0, DREAD_MOST);
            }
        }

        int greatestDread(int p) {
            int greatest = 0;
            for (int f = 0; f < FEARS; f++) {
                greatest = Math.max(greatest, dreadOf(p, f));
            }
            return greatest;
        }

        int dreadInAll(int p) {
            int all = 0;
            for (int f = 0; f < FEARS; f++) {
                all += dreadOf(p, f);
            }
            return all;
        }

        /** The FEAR of p, or NOTHING; so it is too for one who is not told. */
        int fearOf(int p) {
            int greatest = greatestDread(p);
            if (greatest == 0) {
                return NOTHING;
            }
            int fear = NOTHING;
            for (int f = 0; f < FEARS; f++) {
                if (dreadOf(p, f) == greatest) {
                    if (fear >= 0) {
                        return NOTHING;
                    }
                    fear = f;
                }
            }
            return fear;
        }

        int havingFear(int f) {
            int who = 0;
            for (int p = 0; p < PEOPLE; p++) {
                if (fearOf(p) == f) {
                    who |= 1 << p;
                }
            }
            return who;
        }

        int nobodysFears() {
            int nobodys = ALL_FEARS;
            for (int p = 0; p < PEOPLE; p++) {
                nobodys &= ~fearsFrom(p, 1);
            }
            return nobodys;
        }

        int allsFears() {
            int alls = ALL_FEARS;
            for (int p = 0; p < PEOPLE; p++) {
                if (isPerson(p)) {
                    alls &= fearsFrom(p, 1);
                }
            }
            return alls;
        }

        /** The FEARS of which p has so much DREAD at least. */
        int fearsFrom(int p, int much) {
            int bits = 0;
            for (int f = 0; f < FEARS; f++) {
                if (dreadOf(p, f) >= much) {
                    bits |= 1 << f;
                }
            }
            return bits;
        }

        int knownTo(int p) {
            return p >= 0 && p < PEOPLE ? knows[p] : 0;
        }

        void acquaint(int p, int q, boolean know) {
            if (p < 0 || p >= PEOPLE || q < 0 || q >= PEOPLE) {
                return;
            }
            if (know) {
                knows[p] |= 1 << q;
                knows[q] |= 1 << p;
            } else {
                knows[p] &= ~(1 << q);
                knows[q] &= ~(1 << p);
            }
        }

        int acquaintances() {
            int ends = 0;
            for (int p = 0; p < PEOPLE; p++) {
                ends += Integer.bitCount(knows[p]);
            }
            return ends / 2;
        }

        void tellDoor(int d, int fear, int needed) {
            if (d >= 0 && d < DOORS) {
                doors |= 1 << d;
                doorFear[d] = fear;
                strength[d] = needed;
                opened[d] = 0;
            }
        }

        void dropDoor(int d) {
            if (d >= 0 && d < DOORS) {
                doors &= ~(1 << d);
                opened[d] = 0;
            }
        }

        boolean opens(int p, int d) {
            return isPerson(p) && isDoor(d) && fearOf(p) == doorFear[d]
                && dreadOf(p, doorFear[d]) >= strength[d];
        }

        int doorsOpenTo(int p) {
            int bits = 0;
            for (int d = 0; d < DOORS; d++) {
                if (opens(p, d)) {
                    bits |= 1 << d;
                }
            }
            return bits;
        }

        int openersOf(int d) {
            int who = 0;
            for (int p = 0; p < PEOPLE; p++) {
                if (opens(p, d)) {
                    who |= 1 << p;
                }
            }
            return who;
        }

        int openedOf(int d) {
            return d >= 0 && d < DOORS ? opened[d] : 0;
        }

        int openedInAll() {
            int all = 0;
            for (int d = 0; d < DOORS; d++) {
                all += opened[d];
            }
            return all;
        }

        int draw() {
            x = (25173 * x + 13849) % 65536;
            return x % 10;
        }

        void copyFrom(City other) {
            copyDreads(other);
            for (int p = 0; p < PEOPLE; p++) {
                knows[p] = other.knows[p];
            }
            for (int d = 0; d < DOORS; d++) {
                doorFear[d] = other.doorFear[d];
                strength[d] = other.strength[d];
                opened[d] = other.opened[d];
            }
            people = other.people;
            doors = other.doors;
            night = other.night;
            x = other.x;
        }

        void copyDreads(City other) {
            for (int p = 0; p < PEOPLE; p++) {
                for (int f = 0; f < FEARS; f++) {
                    dread[p][f] = other.dread[p][f];
                }
            }
        }

        /** Who was not told then had DREADS of 0 then, so that copying them is enough. */
        void goBackTo(City then) {
            copyDreads(then);
            for (int d = 0; d < DOORS; d++) {
                opened[d] = then.isDoor(d) ? then.opened[d] : 0;
            }
            night = then.night;
            x = then.x;
        }
    }

    /** Reads LINES with a ; between two, from the tape's place on. */
    private abstract static class LinesReader {
        final Tape text;

        LinesReader(Tape text) {
            this.text = text;
        }

        abstract boolean startsLine(int sign);

        /** Reads one LINE, or leaves false with the FAULT on the tape. */
        abstract boolean readLine();

        /** How many LINES there are, or the FAULT. */
        final int readLines(int most) {
            for (int lines = 0; lines <= most; lines++) {
                if (lines > 0) {
                    if (text.at >= text.end) {
                        return lines;
                    }
                    if (!text.expect(';')) {
                        return text.fault;
                    }
                }
                if (!startsLine(text.now())) {
                    text.cannotStand();
                    return text.fault;
                }
                if (lines == most) {
                    text.fail(FAULT_LINES, text.at);
                    return text.fault;
                }
                if (!readLine()) {
                    return text.fault;
                }
            }
            return text.fault;
        }
    }

    private static final class DreadsReader extends LinesReader {
        private static final int OF_ALL = '*';

        private final City city;
        private final int person;

        DreadsReader(Tape text, City city, int person) {
            super(text);
            this.city = city;
            this.person = person;
        }

        boolean startsLine(int sign) {
            return sign == OF_ALL || Tape.isFear(sign);
        }

        boolean readLine() {
            int fears = readFears();
            if (fears == 0) {
                return false;
            }
            int sign = text.now();
            if (sign != '=' && sign != '+' && sign != '-') {
                return text.cannotStand();
            }
            text.at++;
            int much = text.readNumber(2);
            if (much < 0) {
                return false;
            }
            city.people |= 1 << person;
            change(fears, sign, much);
            return true;
        }

        /** The FEARS of a LINE as bits; 0 behind a FAULT. */
        private int readFears() {
            if (text.now() == OF_ALL) {
                text.at++;
                return ALL_FEARS;
            }
            int fears = 0;
            while (text.at < text.end && Tape.isFear(text.now())) {
                int fear = text.now() - 'a';
                if (has(fears, fear)) {
                    text.fail(FAULT_TWICE, text.at);
                    return 0;
                }
                fears |= 1 << fear;
                text.at++;
            }
            return fears;
        }

        private void change(int fears, int sign, int much) {
            for (int f = 0; f < FEARS; f++) {
                if (has(fears, f)) {
                    int before = sign == '=' ? 0 : city.dreadOf(person, f);
                    city.setDread(person, f, sign == '-' ? before - much : before + much);
                }
            }
        }
    }

    private static final class OrdersReader extends LinesReader {
        private final City city;

        OrdersReader(Tape text, City city) {
            super(text);
            this.city = city;
        }

        boolean startsLine(int sign) {
            return sign == 'd' || Tape.isDigit(sign);
        }

        boolean readLine() {
            return text.now() == 'd' ? readDoor() : readAcquaintance();
        }

        private boolean readAcquaintance() {
            int p = readPerson();
            if (p < 0) {
                return false;
            }
            int sign = text.now();
            if (sign != '&' && sign != '/') {
                return text.cannotStand();
            }
            text.at++;
            int place = text.at;
            int q = readPerson();
            if (q < 0) {
                return false;
            }
            if (p == q) {
                return text.fail(FAULT_TWICE, place);
            }
            city.acquaint(p, q, sign == '&');
            return true;
        }

        /** One of told PEOPLE; -1 behind a FAULT. */
        private int readPerson() {
            int place = text.at;
            int p = text.readNumber(2);
            if (p >= 0 && !city.isPerson(p)) {
                text.fail(FAULT_UNTOLD, place);
                return -1;
            }
            return p;
        }

        private boolean readDoor() {
            text.at++;
            int place = text.at;
            int d = text.readNumber(2);
            if (d < 0) {
                return false;
            }
            if (d >= DOORS) {
                return text.fail(FAULT_DOOR, place);
            }
            if (text.now() == '!') {
                text.at++;
                if (!city.isDoor(d)) {
                    return text.fail(FAULT_UNTOLD, place);
                }
                city.dropDoor(d);
                return true;
            }
            return text.expect(':') && readLock(d);
        }

        private boolean readLock(int d) {
            int letter = text.now();
            if (!Tape.isFear(letter)) {
                return text.cannotStand();
            }
            text.at++;
            int needed = text.readNumber(2);
            if (needed < 0) {
                return false;
            }
            city.tellDoor(d, letter - 'a', needed);
            return true;
        }
    }

    /**
     * THE LAW as steps on a stack, each letter of which leaves what it stands for. What a RULE
     * weighs and whether its C holds are reckoned without reading the TEXT again.
     */
    private static final class Law {
        private static final int STEPS_MOST = 256;
        private static final int STACK_MOST = 32;
        private static final String LETTERS = "kdfvgmnotw";

        /** Kinds of steps; the other ones are the signs of the TEXT themselves. */
        private static final int NUMBER = '#';
        private static final int LETTER = '@';
        private static final int STOP = '.';

        private final int[] step = new int[STEPS_MOST];
        /** The number, which letter, or for & and | the step to go on with if that is enough. */
        private final int[] detail = new int[STEPS_MOST];
        private int steps = 0;
        private final int[] kind = new int[RULES_MOST];
        private final int[] worthFrom = new int[RULES_MOST];
        private final int[] conditionFrom = new int[RULES_MOST];
        private int rules = 0;
        private final int[] meaning = new int[LETTERS.length()];
        private final int[] stack = new int[STACK_MOST];
        private int high = 0;

        void clear() {
            steps = 0;
            rules = 0;
        }

        void startRule(int letter) {
            if (rules < RULES_MOST) {
                kind[rules] = letter;
                worthFrom[rules] = steps;
            }
        }

        void startCondition() {
            if (rules < RULES_MOST) {
                conditionFrom[rules] = steps;
            }
        }

        void endRule() {
            rules = Math.min(RULES_MOST, rules + 1);
        }

        /** Which step it has become. */
        int add(int sign, int with) {
            if (steps < STEPS_MOST) {
                step[steps] = sign;
                detail[steps] = with;
                steps++;
            }
            return steps - 1;
        }

        void leadHere(int jump) {
            if (jump >= 0 && jump < STEPS_MOST) {
                detail[jump] = steps;
            }
        }

        void meanPerson(int who, int greatest, int known) {
            meaning[0] = who;
            meaning[4] = greatest;
            meaning[6] = known;
        }

        void meanOther(int which, int fear, int dread) {
            meaning[1] = which;
            meaning[2] = fear;
            meaning[3] = dread;
        }

        void meanDoor(int needed, int opened) {
            meaning[5] = needed;
            meaning[7] = opened;
        }

        void meanTime(int night, int draw) {
            meaning[8] = night;
            meaning[9] = draw;
        }

        boolean anyHolds(int letter) {
            for (int r = 0; r < rules && r < RULES_MOST; r++) {
                if (kind[r] == letter && reckon(conditionFrom[r]) != 0) {
                    return true;
                }
            }
            return false;
        }

        /** The E of the first RULE with this letter whose C holds, from 0 to most. */
        int worth(int letter, int most) {
            for (int r = 0; r < rules && r < RULES_MOST; r++) {
                if (kind[r] == letter && reckon(conditionFrom[r]) != 0) {
                    return bounded(reckon(worthFrom[r]), 0, most);
                }
            }
            return 0;
        }

        /** What the steps leave; a division by 0 leaves 0, which is a C that doesn't hold, too. */
        private int reckon(int from) {
            high = 0;
            for (int i = Math.max(0, from); i < steps && i < STEPS_MOST && step[i] != STOP; i++) {
                int sign = step[i];
                if (sign == NUMBER) {
                    push(detail[i]);
                } else if (sign == LETTER) {
                    push(meaningOf(detail[i]));
                } else if (sign == '!') {
                    push(pop() == 0 ? 1 : 0);
                } else if (sign == '&' || sign == '|') {
                    int holds = pop();
                    if ((holds != 0) == (sign == '|')) {
                        push(holds);
                        i = Math.max(i, detail[i] - 1);
                    }
                } else {
                    int right = pop();
                    int left = pop();
                    if (right == 0 && (sign == '/' || sign == '%')) {
                        return 0;
                    }
                    push(joined(left, sign, right));
                }
            }
            return pop();
        }

        private static int joined(int left, int sign, int right) {
            switch (sign) {
                case '+':
                    return left + right;
                case '-':
                    return left - right;
                case '*':
                    return left * right;
                case '/':
                    return right == 0 ? 0 : left / right;
                case '%':
                    return right == 0 ? 0 : left % right;
                case '<':
                    return left < right ? 1 : 0;
                case '>':
                    return left > right ? 1 : 0;
                default:
                    return left == right ? 1 : 0;
            }
        }

        private int meaningOf(int letter) {
            return letter >= 0 && letter < meaning.length ? meaning[letter] : 0;
        }

        private void push(int value) {
            if (high >= 0 && high < STACK_MOST) {
                stack[high] = value;
                high++;
            }
        }

        private int pop() {
            if (high <= 0 || high > STACK_MOST) {
                return 0;
            }
            high--;
            return stack[high];
        }
    }

    /** Reads THE LAW; depth is how many of ( [ ! are open ahead of the place. */
    private static final class LawReader extends LinesReader {
        private static final int OPEN_MOST = 6;
        private static final int LAW_DIGITS = 5;

        private final Law law;

        LawReader(Tape text, Law law) {
            super(text);
            this.law = law;
        }

        boolean startsLine(int sign) {
            return sign == 'e' || sign == 'c' || sign == 's' || sign == 'x';
        }

        boolean readLine() {
            int letter = text.now();
            text.at++;
            law.startRule(letter);
            if (letter != 'x' && !readSum(0)) {
                return false;
            }
            law.add(Law.STOP, 0);
            law.startCondition();
            if (!text.expect('(') || !readAnyOf(1) || !text.expect(')')) {
                return false;
            }
            law.add(Law.STOP, 0);
            law.endRule();
            return true;
        }

        private boolean readAnyOf(int depth) {
            if (!readAllOf(depth)) {
                return false;
            }
            while (text.at < text.end && text.now() == '|') {
                text.at++;
                int jump = law.add('|', 0);
                if (!readAllOf(depth)) {
                    return false;
                }
                law.leadHere(jump);
            }
            return true;
        }

        private boolean readAllOf(int depth) {
            if (!readTest(depth)) {
                return false;
            }
            while (text.at < text.end && text.now() == '&') {
                text.at++;
                int jump = law.add('&', 0);
                if (!readTest(depth)) {
                    return false;
                }
                law.leadHere(jump);
            }
            return true;
        }

        private boolean readTest(int depth) {
            int sign = text.now();
            if (sign == '!') {
                return readNegation(depth);
            }
            if (sign == '(') {
                return open(depth) && readAnyOf(depth + 1) && text.expect(')');
            }
            return readComparison(depth);
        }

        private boolean readNegation(int depth) {
            if (!open(depth) || !readTest(depth + 1)) {
                return false;
            }
            law.add('!', 0);
            return true;
        }

        private boolean open(int depth) {
            if (depth >= OPEN_MOST) {
                return text.fail(FAULT_OPEN, text.at);
            }
            text.at++;
            return true;
        }

        private boolean readComparison(int depth) {
            if (!readSum(depth)) {
                return false;
            }
            int sign = text.now();
            if (sign != '<' && sign != '>' && sign != '=') {
                return text.cannotStand();
            }
            text.at++;
            if (!readSum(depth)) {
                return false;
            }
            law.add(sign, 0);
            return true;
        }

        private boolean readSum(int depth) {
            if (!readProduct(depth)) {
                return false;
            }
            while (text.at < text.end && (text.now() == '+' || text.now() == '-')) {
                int sign = text.now();
                text.at++;
                if (!readProduct(depth)) {
                    return false;
                }
                law.add(sign, 0);
            }
            return true;
        }

        private boolean readProduct(int depth) {
            if (!readFactor(depth)) {
                return false;
            }
            while (text.at < text.end && joinsFactors(text.now())) {
                int sign = text.now();
                text.at++;
                if (!readFactor(depth)) {
                    return false;
                }
                law.add(sign, 0);
            }
            return true;
        }

        private static boolean joinsFactors(int sign) {
            return sign == '*' || sign == '/' || sign == '%';
        }

        private boolean readFactor(int depth) {
            int sign = text.now();
            if (sign == '[') {
                return open(depth) && readSum(depth + 1) && text.expect(']');
            }
            if (Tape.isDigit(sign)) {
                int value = text.readNumber(LAW_DIGITS);
                if (value < 0) {
                    return false;
                }
                law.add(Law.NUMBER, value);
                return true;
            }
            int letter = sign < 0 ? -1 : Law.LETTERS.indexOf((char) sign);
            if (letter < 0) {
                return text.cannotStand();
            }
            text.at++;
            law.add(Law.LETTER, letter);
            return true;
        }
    }

    private static final class Nightfall {
        /** DREADS as they were when all had tried their DOORS. */
        private final City behindDoors = new City();
        private int openings = 0;
        private int failures = 0;

        void pass(City city, Law law, int nights) {
            openings = 0;
            failures = 0;
            for (int i = 0; i < nights && city.night < NIGHT_MOST; i++) {
                for (int p = 0; p < PEOPLE; p++) {
                    if (city.isPerson(p)) {
                        goOut(city, law, p);
                    }
                }
                spreadDread(city, law);
                city.night++;
            }
        }

        private void goOut(City city, Law law, int p) {
            law.meanPerson(p, city.greatestDread(p), Integer.bitCount(city.knownTo(p)));
            law.meanOther(0, 0, 0);
            law.meanDoor(0, 0);
            law.meanTime(city.night % 100, city.draw());
            if (law.anyHolds('x')) {
                return;
            }
            int d = doorTried(city, law, p);
            if (d >= 0) {
                tryDoor(city, law, p, d);
            }
        }

        /** The DOOR p would try most, or NOTHING. */
        private static int doorTried(City city, Law law, int p) {
            int door = NOTHING;
            int most = 0;
            for (int d = 0; d < DOORS; d++) {
                if (city.isDoor(d)) {
                    meanDoorFor(city, law, p, d);
                    int wish = law.worth('e', WISH_MOST);
                    if (wish > most) {
                        most = wish;
                        door = d;
                    }
                }
            }
            return door;
        }

        private static void meanDoorFor(City city, Law law, int p, int d) {
            if (city.isDoor(d)) {
                int fear = city.doorFear[d];
                law.meanOther(d, fear, city.dreadOf(p, fear));
                law.meanDoor(city.strength[d], city.opened[d]);
            }
        }

        private void tryDoor(City city, Law law, int p, int d) {
            if (!city.isDoor(d)) {
                return;
            }
            int fear = city.doorFear[d];
            int dread = city.dreadOf(p, fear);
            if (city.opens(p, d)) {
                meanDoorFor(city, law, p, d);
                int cure = law.worth('c', DREAD_MOST);
                openings++;
                city.opened[d] = Math.min(OPENED_MOST, city.opened[d] + 1);
                city.setDread(p, fear, dread - cure);
            } else {
                failures++;
                city.setDread(p, fear, dread + 1);
            }
        }

        private void spreadDread(City city, Law law) {
            behindDoors.copyFrom(city);
            law.meanDoor(0, 0);
            law.meanTime(city.night % 100, 0);
            for (int p = 0; p < PEOPLE; p++) {
                for (int q = p + 1; q < PEOPLE; q++) {
                    if (has(city.knownTo(p), q)) {
                        catchDread(city, law, p, q);
                        catchDread(city, law, q, p);
                    }
                }
            }
        }

        private void catchDread(City city, Law law, int p, int other) {
            int fear = behindDoors.fearOf(other);
            if (fear < 0) {
                return;
            }
            law.meanPerson(p, behindDoors.greatestDread(p), Integer.bitCount(city.knownTo(p)));
            law.meanOther(other, fear, behindDoors.dreadOf(p, fear));
            int more = law.worth('s', DREAD_MOST);
            city.setDread(p, fear, city.dreadOf(p, fear) + more);
        }
    }

    /** Who OPENS what, and what a DOOR can be by who tried it (on the tape: who, and 1 if it opened). */
    private static final class Keys {
        /** Which DOORS each one OPENS. */
        private final int[] opens = new int[PEOPLE];

        /** The least change of DREADS of p by which he OPENS DOOR d. */
        static int lessons(City city, int p, int d) {
            if (!city.isDoor(d)) {
                return NONE;
            }
            int fear = city.doorFear[d];
            int best = UNLIKE_MOST;
            for (int aim = Math.max(1, city.strength[d]); aim <= DREAD_MOST; aim++) {
                int change = Math.abs(aim - city.dreadOf(p, fear));
                for (int f = 0; f < FEARS; f++) {
                    if (f != fear) {
                        change += Math.max(0, city.dreadOf(p, f) - (aim - 1));
                    }
                }
                best = Math.min(best, change);
            }
            return best;
        }

        /** The fewest PEOPLE (bits) who OPEN all told DOORS; NOTHING if there are none. */
        int fewestForAllDoors(City city) {
            int everyone = (1 << PEOPLE) - 1;
            int best = NOTHING;
            int fewest = PEOPLE + 1;
            for (int p = 0; p < PEOPLE; p++) {
                opens[p] = city.doorsOpenTo(p);
            }
            for (int who = 0; who <= everyone; who++) {
                if (Integer.bitCount(who) < fewest && openedBy(who) == city.doors) {
                    best = who;
                    fewest = Integer.bitCount(who);
                }
            }
            return best;
        }

        private int openedBy(int who) {
            int doors = 0;
            for (int p = 0; p < opens.length; p++) {
                if (has(who, p)) {
                    doors |= opens[p];
                }
            }
            return doors;
        }

        /**
         * Of DOORS of one FEAR, who OPENS a stronger one OPENS a weaker one, too: so the strongest
         * DOORS are let first, and it doesn't matter to whom of those who OPEN them.
         */
        static int mostLet(City city) {
            int housed = 0;
            for (int strength = DREAD_MOST; strength >= 0; strength--) {
                for (int d = 0; d < DOORS; d++) {
                    if (city.isDoor(d) && city.strength[d] == strength) {
                        int free = city.openersOf(d) & ~housed;
                        housed |= free & -free;
                    }
                }
            }
            return Integer.bitCount(housed);
        }

        static boolean triesFit(Tape tries, City city, int n) {
            for (int i = 0; i < n; i++) {
                if (!city.isPerson(tries.byteAt(2 * i)) || tries.byteAt(2 * i + 1) > 1) {
                    return false;
                }
            }
            return true;
        }

        static int possibleFears(Tape tries, City city, int n) {
            int fears = 0;
            for (int f = 0; f < FEARS; f++) {
                if (leastStrength(tries, city, n, f) <= greatestStrength(tries, city, n, f)) {
                    fears |= 1 << f;
                }
            }
            return fears;
        }

        /** So strong that who has the FEAR but failed can fail. */
        static int leastStrength(Tape tries, City city, int n, int fear) {
            int least = 0;
            for (int i = 0; i < n; i++) {
                int p = tries.byteAt(2 * i);
                if (tries.byteAt(2 * i + 1) == 0 && city.fearOf(p) == fear) {
                    least = Math.max(least, city.dreadOf(p, fear) + 1);
                }
            }
            return least;
        }

        /** So strong that who OPENED it still can; -1 if one of another FEAR did. */
        static int greatestStrength(Tape tries, City city, int n, int fear) {
            int greatest = DREAD_MOST;
            for (int i = 0; i < n; i++) {
                int p = tries.byteAt(2 * i);
                if (tries.byteAt(2 * i + 1) == 1) {
                    int enough = city.fearOf(p) == fear ? city.dreadOf(p, fear) : -1;
                    greatest = Math.min(greatest, enough);
                }
            }
            return greatest;
        }

        static int bestToSend(City city, int fears) {
            int best = NOTHING;
            int fewest = FEARS + 1;
            for (int p = 0; p < PEOPLE; p++) {
                if (city.isPerson(p) && leftAtWorst(city, fears, p) < fewest) {
                    best = p;
                    fewest = leftAtWorst(city, fears, p);
                }
            }
            return best;
        }

        /** Where it opens, the FEAR of p alone is left; where not, all the other ones. */
        static int leftAtWorst(City city, int fears, int p) {
            int all = Integer.bitCount(fears);
            return has(fears, city.fearOf(p)) ? Math.max(1, all - 1) : all;
        }
    }

    /** PEOPLE by who KNOWS whom and by who is LIKE whom. */
    private static final class Company {
        private final int[] links = new int[PEOPLE];
        /** For each group of PEOPLE (bits) the most couples in it. */
        private final int[] couplesIn = new int[1 << PEOPLE];

        /** Who stands beside one of a group. */
        private static int beside(int[] links, int group) {
            int who = 0;
            for (int p = 0; p < links.length; p++) {
                if (has(group, p)) {
                    who |= links[p];
                }
            }
            return who;
        }

        /** Who hangs together with one of a group by those among some. */
        private static int reached(int[] links, int group, int among) {
            int who = group & among;
            for (int round = 0; round < PEOPLE; round++) {
                who |= beside(links, who) & among;
            }
            return who;
        }

        static int holdersTogether(City city) {
            int holders = 0;
            for (int p = 0; p < PEOPLE; p++) {
                int others = city.people & ~(1 << p);
                int known = city.knownTo(p) & others;
                int first = known & -known;
                if ((known & ~reached(city.knows, first, others)) != 0) {
                    holders |= 1 << p;
                }
            }
            return holders;
        }

        static int stepsBetween(City city, int p, int q) {
            int who = 1 << p;
            for (int steps = 0; steps < PEOPLE; steps++) {
                if (has(who, q)) {
                    return steps;
                }
                who |= beside(city.knows, who);
            }
            return NOTHING;
        }

        /** Those who have a FEAR a round later. */
        static int grownFashion(City city, int who, int least) {
            int grown = who;
            for (int p = 0; p < PEOPLE; p++) {
                if (Integer.bitCount(city.knownTo(p) & who) >= least) {
                    grown |= 1 << p;
                }
            }
            return grown;
        }

        static int difference(City city, int p, int q) {
            int all = 0;
            for (int f = 0; f < FEARS; f++) {
                all += Math.abs(city.dreadOf(p, f) - city.dreadOf(q, f));
            }
            return all;
        }

        static int nearestTo(City city, int p) {
            int nearest = NOTHING;
            int least = UNLIKE_MOST + 1;
            for (int q = 0; q < PEOPLE; q++) {
                if (q != p && city.isPerson(q) && difference(city, p, q) < least) {
                    nearest = q;
                    least = difference(city, p, q);
                }
            }
            return nearest;
        }

        void linkAlike(City city, int much) {
            for (int p = 0; p < PEOPLE; p++) {
                links[p] = 0;
                for (int q = 0; q < PEOPLE; q++) {
                    if (city.isPerson(p) && city.isPerson(q) && difference(city, p, q) <= much) {
                        links[p] |= 1 << q;
                    }
                }
            }
        }

        int circleOf(int p, int people) {
            return reached(links, 1 << p, people);
        }

        int circlesOf(int people) {
            int circles = 0;
            int left = people;
            for (int p = 0; p < PEOPLE; p++) {
                if (has(left, p)) {
                    circles++;
                    left &= ~circleOf(p, people);
                }
            }
            return circles;
        }

        int mostCouples(City city, int much) {
            linkFellows(city, much);
            couplesIn[0] = 0;
            for (int last = 0; last < PEOPLE; last++) {
                for (int rest = 0; rest < 1 << last; rest++) {
                    couplesIn[rest | 1 << last] = mostWith(last, rest);
                }
            }
            return couplesIn[couplesIn.length - 1];
        }

        private void linkFellows(City city, int much) {
            for (int p = 0; p < PEOPLE; p++) {
                links[p] = 0;
                for (int q = 0; q < p; q++) {
                    if ((city.fearsFrom(p, much) & city.fearsFrom(q, much)) != 0) {
                        links[p] |= 1 << q;
                    }
                }
            }
        }

        /** One stays alone, or makes a couple with one of the rest. */
        private int mostWith(int one, int rest) {
            if (one < 0 || one >= PEOPLE || rest < 0 || rest >= couplesIn.length) {
                return 0;
            }
            int most = couplesIn[rest];
            for (int q = 0; q < one; q++) {
                if (has(links[one] & rest, q)) {
                    most = Math.max(most, 1 + couplesIn[rest & ~(1 << q)]);
                }
            }
            return most;
        }
    }

    /** Guards round a court, words by weight, and a row of rooms. */
    private static final class Pastimes {
        private final int[] guardFear = new int[GUARDS_MOST];
        /** How many words weigh so much. */
        private final long[] words = new long[LETTERS_MOST * FEARS + 1];

        int waysToStand(Tape guards, City city, int n) {
            int seen = 0;
            for (int i = 0; i < n && i < GUARDS_MOST; i++) {
                int p = guards.byteAt(i);
                if (!city.isPerson(p) || has(seen, p)) {
                    return MISFIT;
                }
                seen |= 1 << p;
                guardFear[i] = city.fearOf(p);
            }
            int ways = 0;
            for (int first = 0; first < n && first < GUARDS_MOST; first++) {
                ways += waysOn(guardFear, n, 1 << first, first, first);
            }
            return ways;
        }

        /** The ways to go on behind last; each call places one more, so it is n deep at most. */
        private static int waysOn(int[] fear, int n, int placed, int first, int last) {
            if (Integer.bitCount(placed) >= n) {
                return canStandTogether(fear, last, first) ? 1 : 0;
            }
            int ways = 0;
            for (int next = 0; next < n; next++) {
                if (!has(placed, next) && canStandTogether(fear, last, next)) {
                    ways += waysOn(fear, n, placed | 1 << next, first, next);
                }
            }
            return ways;
        }

        private static boolean canStandTogether(int[] fear, int i, int j) {
            if (i < 0 || i >= fear.length || j < 0 || j >= fear.length) {
                return false;
            }
            return fear[i] < 0 || fear[i] != fear[j];
        }

        long wordsWeighing(int letters, int fears, int weight) {
            for (int w = 0; w < words.length; w++) {
                words[w] = 0;
            }
            words[0] = 1;
            for (int i = 0; i < letters; i++) {
                for (int w = words.length - 1; w >= 0; w--) {
                    words[w] = wordsWithOneMore(fears, w);
                }
            }
            return weight >= 0 && weight < words.length ? words[weight] : 0;
        }

        /** Asks lighter words only: those are still without the letter, as heavier ones go first. */
        private long wordsWithOneMore(int fears, int weight) {
            long ways = 0;
            for (int f = 0; f < FEARS; f++) {
                int rest = weight - (f + 1);
                if (has(fears, f) && rest >= 0 && rest < words.length) {
                    ways += words[rest];
                }
            }
            return ways;
        }

        /**
         * Only rooms of a FEAR that most of them have must stand side by side, and those that must
         * come first: 7 more and then 5 less never leaves more than 5 less and then 7 more, as the
         * bounds take from the 7 above and from the 5 below.
         */
        static int leastDreadBehindRooms(Tape rooms, int n, int dread) {
            int same = Math.max(0, 2 * roomsOfCommonest(rooms, n) - n - 1);
            int left = dread;
            for (int i = 1; i < n; i++) {
                left = bounded(i <= same ? left + 7 : left - 5, 0, DREAD_MOST);
            }
            return left;
        }

        private static int roomsOfCommonest(Tape rooms, int n) {
            int commonest = 0;
            for (int f = 0; f < FEARS; f++) {
                int of = 0;
                for (int i = 0; i < n; i++) {
                    if (rooms.byteAt(i) == f) {
                        of++;
                    }
                }
                commonest = Math.max(commonest, of);
            }
            return commonest;
        }
    }
}
