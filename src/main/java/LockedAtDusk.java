/**
 * A park at dusk: a keeper shuts its gates one after another, and people who hear the bell go to a gate.
 * What an answer means is told by the document's promises; README.md says where that is.
 */
public final class LockedAtDusk {
    public static final int NONE = -1, BAD = -2, STATE = -3, FULL = -4;
    public static final long NO = Long.MIN_VALUE;

    private static final int NOT_ANY = -5;
    private static final int NOTHING = -11, CAST = -12, PLACE = -13, SIZE = -14;
    private static final int NONE_OF = -1001;
    private static final int FAULT_BASE = -10;

    private static final int PLACES = 30;
    private static final int MOST_GATES = 6, MOST_PEOPLE = 6, MOST_ROUND = 6;
    private static final int MOST_DUSKS = 6, MOST_SIGNS = 100, MOST_CLAUSES = 10, DEEPEST_PART = 4;
    private static final int MOST_SEEN = 5, LATEST_SEEN = 20, MOST_EVENING = 10, MOST_BOOK = 8;
    private static final int LAST_MINUTE = 9999, LONGEST_PASS = 60, LONGEST_ASK = 99;
    private static final int LEFT_MINUTES = 60, HIDE_MINUTES = 30, LONGEST_MEAN = 60;
    private static final int QUICKEST = 9, LONGEST_WAIT = 15;
    private static final int FIRST = 0, SWAP = 1, QUICK = 2, WAIT = 3, OPEN = 4, LEFT = 5;
    // The last change there can be to try is the swap of the round's 4 and 5, told as 45.
    private static final int CHANGES = 46;

    private static final int KINDS = 7, OLD = 1, CHILD = 2, TRAMP = 3, LAME = 4, RUNNING = 5, TOLD = 6;
    private static final int[] KIND_ABOVE = {-1, 0, 0, 0, 1, 2, 3};
    private static final int ROW_PARTS = 4;

    private static final int ACTS = 3, WAITS = 0, WALKS = 1, TELLS = 2;
    // By kind and act; 0: that kind has no body of its own.
    private static final int[] BODIES = {
        10, 11, 12,
        0, 20, 0,
        30, 0, 0,
        0, 0, 40,
        50, 51, 0,
        0, 0, 60,
        71, 70, 0};
    private static final int TRACE_KEPT = 20, DEEPEST_ACT = 40;

    private static final int TAPES = 6, MOST_ITEMS = 60;
    private static final int HOLDS_NOTHING = -1, BYTES = 0, SHORTS = 1, INTS = 2, LONGS = 3, BOOLEANS = 4;

    private final Park now = new Park();
    private final Park trial = new Park();
    private final Rows seen = new Rows(MOST_SEEN);
    private final Rows evening = new Rows(MOST_EVENING);
    private final Rows book = new Rows(MOST_BOOK);
    private final Image image = new Image();
    private final Reader reader = new Reader();
    private final Dusk[] dusks = new Dusk[MOST_DUSKS];
    private final Acts acts = new Acts();
    private final Tape[] tapes = new Tape[TAPES];
    private int duskCount;

    public LockedAtDusk() {
        for (int i = 0; i < MOST_DUSKS; i++) {
            dusks[i] = new Dusk();
        }
        for (int i = 0; i < TAPES; i++) {
            tapes[i] = new Tape();
        }
    }

    // ---- gates, people, dusks

    public int gate(int place) {
        if (!isPlace(place)) {
            return BAD;
        }
        if (now.gates == MOST_GATES) {
            return FULL;
        }
        return now.addGate(place);
    }

    public int person(int kind, int v, int place) {
        if (kind < 0 || kind >= KINDS) {
            return NONE;
        }
        if (!isDigit(v) || !isPlace(place)) {
            return BAD;
        }
        if (now.people == MOST_PEOPLE) {
            return FULL;
        }
        return now.addPerson(kind, v, place);
    }

    public int of(int person, int what) {
        if (!now.hasPerson(person)) {
            return NONE_OF;
        }
        Person one = now.persons[person];
        switch (what) {
            case 0: return one.kind;
            case 1: return one.v;
            case 2: return one.place;
            case 3: return bit(one.called);
            case 4: return one.found;
            case 5: return bit(one.out);
            case 6: return now.ears(person);
            case 7: return bit(now.hears(person));
            case 8: return now.steps(one);
            case 9: return now.goal(one);
            default: return NONE_OF;
        }
    }

    public int put(int person, int place) {
        if (!now.hasPerson(person)) {
            return NONE;
        }
        if (!isPlace(place)) {
            return BAD;
        }
        int was = now.persons[person].place;
        now.setDown(person, place);
        return was;
    }

    public int call(int person, boolean is) {
        if (!now.hasPerson(person)) {
            return NONE;
        }
        Person one = now.persons[person];
        int was = bit(one.called);
        one.called = is;
        if (!is) {
            one.found = 0;
        }
        return was;
    }

    public int shut(int gate, boolean is) {
        if (!now.hasGate(gate)) {
            return NONE;
        }
        int was = bit(now.isShut(gate));
        now.setShut(gate, is);
        return was;
    }

    public int row(int person, int part, int n) {
        if (!now.hasPerson(person) || part < 0 || part >= ROW_PARTS) {
            return NONE;
        }
        if (!isDigit(n)) {
            return BAD;
        }
        Person one = now.persons[person];
        if (one.kind != TOLD) {
            return STATE;
        }
        int was = one.row[part];
        one.row[part] = n;
        return was;
    }

    public int round(int gate) {
        if (gate == -1) {
            now.endRound();
            return 0;
        }
        if (!now.hasGate(gate)) {
            return NONE;
        }
        if (now.rounds == MOST_ROUND) {
            return FULL;
        }
        now.round[now.rounds] = gate;
        now.rounds++;
        return now.rounds;
    }

    public int feed(int sign) {
        if (sign < 0 || sign > 127) {
            return BAD;
        }
        if (reader.length == MOST_SIGNS) {
            return FULL;
        }
        return reader.addSign(sign);
    }

    public int dusk() {
        if (duskCount == MOST_DUSKS) {
            return FULL;
        }
        int fault = reader.readInto(dusks[duskCount]);
        reader.length = 0;
        if (fault >= 0) {
            return FAULT_BASE - fault;
        }
        now.dusk = dusks[duskCount];
        duskCount++;
        return duskCount - 1;
    }

    public int told(int what) {
        if (what >= 10 && what < 10 + now.gates) {
            return now.gatePlaces[what - 10];
        }
        switch (what) {
            case 0: return now.minute;
            case 1: return now.dusk.bell;
            case 2: return now.dusk.pace;
            case 3: return now.keeper;
            case 4: return now.at;
            case 5: return now.shutGates;
            case 6: return now.outBits();
            default: return NONE;
        }
    }

    // ---- minutes

    public int pass(int n) {
        if (n < 0 || n > LONGEST_PASS) {
            return BAD;
        }
        if (now.minute + n > LAST_MINUTE) {
            return STATE;
        }
        now.passMinutes(n);
        return now.minute;
    }

    public int on(int n, int what) {
        boolean ofPlace = what >= 10 && now.hasPerson(what - 10);
        boolean ofFound = what >= 20 && now.hasPerson(what - 20);
        if (!ofPlace && !ofFound && (what < 0 || what > 2)) {
            return NONE;
        }
        if (n < 0 || n > LONGEST_ASK) {
            return BAD;
        }
        trial.copyFrom(now);
        trial.passMinutes(n);
        if (ofPlace) {
            return trial.persons[what - 10].place;
        }
        if (ofFound) {
            return trial.persons[what - 20].found;
        }
        if (what == 0) {
            return trial.outBits();
        }
        return what == 1 ? trial.shutGates : trial.keeper;
    }

    public int clear() {
        trial.copyFrom(now);
        for (int n = 0; n <= LONGEST_ASK; n++) {
            if (trial.inside() == 0) {
                return n;
            }
            trial.passMinute();
        }
        return NOT_ANY;
    }

    public int stay() {
        trial.copyFrom(now);
        trial.passMinutes(LONGEST_ASK);
        int all = (1 << trial.people) - 1;
        return all & ~trial.outBits();
    }

    // ---- what is best

    public int best(int what) {
        if (what < FIRST || what > LEFT) {
            return NONE;
        }
        trial.copyFrom(now);
        int left = trial.leftBehind();
        if (what == LEFT) {
            return left;
        }
        boolean mustGain = what == SWAP || what == OPEN;
        return bestChange(what, mustGain ? left : MOST_PEOPLE + 1);
    }

    /** The first change by which the fewest are left, fewer than a number; -5: none. */
    private int bestChange(int what, int fewerThan) {
        int least = fewerThan;
        int best = NOT_ANY;
        for (int change = 0; change < CHANGES && least > 0; change++) {
            if (canChange(what, change)) {
                trial.copyFrom(now);
                makeChange(what, change);
                int left = trial.leftBehind();
                if (left < least) {
                    least = left;
                    best = change;
                }
            }
        }
        return best;
    }

    private boolean canChange(int what, int change) {
        switch (what) {
            case FIRST: return change < now.rounds;
            case SWAP: return change / 10 < change % 10 && change % 10 < now.rounds;
            case QUICK: return change >= 1 && change <= QUICKEST;
            case WAIT: return change <= LONGEST_WAIT;
            default: return change < now.gates;
        }
    }

    private void makeChange(int what, int change) {
        switch (what) {
            case FIRST: trial.beginRoundWith(change); break;
            case SWAP: trial.swapInRound(change / 10, change % 10); break;
            case QUICK: trial.otherPace = change; break;
            case WAIT: trial.waiting = change; break;
            default: trial.keepOpen(change); break;
        }
    }

    public int hides(int person) {
        if (!now.hasPerson(person)) {
            return NONE;
        }
        int places = 0;
        for (int place = 0; place < PLACES; place++) {
            trial.copyFrom(now);
            trial.sendOthersOut(person);
            trial.setDown(person, place);
            trial.passMinutes(HIDE_MINUTES);
            if (!trial.persons[person].out) {
                places |= 1 << place;
            }
        }
        return places;
    }

    // ---- seen, odds

    public int see(int person, boolean isOut, int n) {
        if (person == -1) {
            seen.size = 0;
            return 0;
        }
        if (!now.hasPerson(person)) {
            return NONE;
        }
        if (n < 0 || n > LATEST_SEEN) {
            return BAD;
        }
        return seen.isFull() ? FULL : seen.addRow(person, bit(isOut), n);
    }

    public int where(int person, int what) {
        if (!now.hasPerson(person) || !isPart(what)) {
            return NONE;
        }
        int places = 0;
        for (int place = 0; place < PLACES; place++) {
            trial.copyFrom(now);
            trial.setDown(person, place);
            if (trialIsAsSeen()) {
                places |= 1 << place;
            }
        }
        return what == 0 ? Integer.bitCount(places) : leastOf(places);
    }

    public int can(int person, int what) {
        if (!now.hasPerson(person) || !isPart(what)) {
            return NONE;
        }
        int numbers = 0;
        for (int v = 0; v < 10; v++) {
            trial.copyFrom(now);
            trial.persons[person].v = v;
            if (trialIsAsSeen()) {
                numbers |= 1 << v;
            }
        }
        return what == 0 ? Integer.bitCount(numbers) : leastOf(numbers);
    }

    private boolean trialIsAsSeen() {
        int latest = 0;
        for (int i = 0; i < seen.size; i++) {
            latest = Math.max(latest, seen.third[i]);
        }
        for (int n = 0; n <= latest; n++) {
            for (int i = 0; i < seen.size; i++) {
                if (seen.third[i] == n && bit(trial.persons[seen.first[i]].out) != seen.second[i]) {
                    return false;
                }
            }
            trial.passMinute();
        }
        return true;
    }

    private static int leastOf(int bits) {
        return bits == 0 ? NOT_ANY : Integer.numberOfTrailingZeros(bits);
    }

    public long odds(int n, int part) {
        if (n < 0 || n > LONGEST_ASK || !isPart(part) || now.people == 0) {
            return NO;
        }
        int good = 0;
        for (int person = 0; person < now.people; person++) {
            trial.copyFrom(now);
            trial.persons[person].called = true;
            trial.passMinutes(n);
            if (trial.inside() == 0) {
                good++;
            }
        }
        return fractionPart(good, now.people, part);
    }

    public long mean(int n, int part) {
        if (n < 1 || n > LONGEST_MEAN || !isPart(part)) {
            return NO;
        }
        trial.copyFrom(now);
        int together = 0;
        for (int minute = 1; minute <= n; minute++) {
            trial.passMinute();
            together += trial.people - trial.inside();
        }
        return fractionPart(together, n, part);
    }

    private static long fractionPart(int above, int below, int part) {
        int common = commonDivisor(above, below);
        if (common < 1) {
            return NO;
        }
        return part == 0 ? above / common : below / common;
    }

    private static int commonDivisor(int one, int other) {
        int a = one;
        int b = other;
        // Euclid's steps are a few dozen at most for numbers of 32 bits.
        for (int step = 0; step < 100 && b != 0; step++) {
            int rest = a % b;
            a = b;
            b = rest;
        }
        return a;
    }

    // ---- evenings, books

    public int evening(int what, int number) {
        if (what == -1) {
            evening.size = 0;
            return 0;
        }
        boolean lacksGate = (what == 1 || what == 2) && !now.hasGate(number);
        boolean lacksPerson = what == 3 && !now.hasPerson(number);
        if (what < 0 || what > 3 || lacksGate || lacksPerson) {
            return NONE;
        }
        return evening.isFull() ? FULL : evening.addRow(what, number, 0);
    }

    public int gone(int what) {
        if (!isPart(what)) {
            return NONE;
        }
        trial.copyFrom(now);
        for (int i = 0; i < evening.size; i++) {
            int number = evening.second[i];
            switch (evening.first[i]) {
                case 0: trial.passMinute(); break;
                case 1: trial.setShut(number, false); break;
                case 2: trial.setShut(number, true); break;
                default: trial.persons[number].called = true; break;
            }
        }
        return what == 0 ? trial.outBits() : trial.shutGates;
    }

    public int book(int person, int place) {
        if (person == -1) {
            book.size = 0;
            return 0;
        }
        if (!now.hasPerson(person)) {
            return NONE;
        }
        if (!isPlace(place)) {
            return BAD;
        }
        return book.isFull() ? FULL : book.addRow(person, place, 0);
    }

    public int looked() {
        for (int i = 0; i < book.size; i++) {
            if (now.persons[book.first[i]].place != book.second[i]) {
                return i;
            }
        }
        return NOT_ANY;
    }

    // ---- judging, the image, acts, tapes

    public int judge(int tape, int i) {
        if (!isTape(tape)) {
            return NONE;
        }
        Tape row = tapes[tape];
        if (row.sort != HOLDS_NOTHING && row.sort != BYTES) {
            return CAST;
        }
        if (i < 0 && now.people > 0) {
            return 100;
        }
        for (int person = 0; person < now.people; person++) {
            // A tape that holds nothing has size 0.
            if (person >= row.size - i) {
                return 100 + person;
            }
            if (row.items[i + person] != now.persons[person].place) {
                return person;
            }
        }
        return NOT_ANY;
    }

    public int image() {
        image.park.copyFrom(now);
        image.seen.copyFrom(seen);
        image.evening.copyFrom(evening);
        image.book.copyFrom(book);
        image.isTaken = true;
        return now.people;
    }

    public int undo() {
        if (!image.isTaken) {
            return STATE;
        }
        now.copyFrom(image.park);
        seen.copyFrom(image.seen);
        evening.copyFrom(image.evening);
        book.copyFrom(image.book);
        return now.people;
    }

    public int act(int person, int act, int x) {
        acts.ran = 0;
        if (!now.hasPerson(person) || act < 0 || act >= ACTS) {
            return 0;
        }
        return acts.begin(person, now.persons[person], act, x);
    }

    public int trace(int i) {
        return i < 0 || i >= Math.min(acts.ran, TRACE_KEPT) ? NONE : acts.trace[i];
    }

    public int taken(int person, int k) {
        if (k < 0 || k >= KINDS) {
            return BAD;
        }
        if (!now.hasPerson(person)) {
            return NOTHING;
        }
        int kind = now.persons[person].kind;
        return isUnder(kind, k) ? kind : CAST;
    }

    private static boolean isUnder(int kind, int above) {
        int k = kind;
        for (int up = 0; up < KINDS && k >= 0 && k != above; up++) {
            k = KIND_ABOVE[k];
        }
        return k == above;
    }

    public int count(int what) {
        switch (what) {
            case 0: return now.people;
            case 1: return now.gates;
            case 2: return duskCount;
            case 3: return now.rounds;
            case 4: return seen.size;
            case 5: return evening.size;
            case 6: return book.size;
            case 7: return reader.length;
            case 8: return acts.ran;
            default: return BAD;
        }
    }

    public int tape(int tape, int sort, int n) {
        if (!isTape(tape)) {
            return NONE;
        }
        if (sort == HOLDS_NOTHING) {
            tapes[tape].become(sort, 0);
            return 1;
        }
        if (sort < BYTES || sort > BOOLEANS || n > MOST_ITEMS) {
            return BAD;
        }
        if (n < 0) {
            return SIZE;
        }
        tapes[tape].become(sort, n);
        return 1;
    }

    public int item(int tape, int i, long v) {
        if (!isTape(tape)) {
            return NONE;
        }
        Tape row = tapes[tape];
        if (row.sort == HOLDS_NOTHING) {
            return NOTHING;
        }
        if (!row.hasItem(i)) {
            return PLACE;
        }
        row.items[i] = row.narrowed(v);
        return 1;
    }

    public long read(int tape, int i) {
        return isTape(tape) && tapes[tape].hasItem(i) ? tapes[tape].items[i] : NO;
    }

    public int shift(int tape, int i, int other, int j, int n) {
        if (!isTape(tape) || !isTape(other)) {
            return NONE;
        }
        Tape from = tapes[tape];
        Tape to = tapes[other];
        if (from.sort == HOLDS_NOTHING || to.sort == HOLDS_NOTHING) {
            return NOTHING;
        }
        if (from.sort != to.sort) {
            return CAST;
        }
        if (!from.hasItems(i, n) || !to.hasItems(j, n)) {
            return PLACE;
        }
        System.arraycopy(from.items, i, to.items, j, n);
        return n;
    }

    // ---- small things

    private static boolean isPlace(int place) {
        return place >= 0 && place < PLACES;
    }

    private static boolean isDigit(int v) {
        return v >= 0 && v <= 9;
    }

    private static boolean isPart(int part) {
        return part == 0 || part == 1;
    }

    private static boolean isTape(int tape) {
        return tape >= 0 && tape < TAPES;
    }

    private static int bit(boolean is) {
        return is ? 1 : 0;
    }

    /** One of the people, as it is at some minute. */
    private static final class Person {
        int kind;
        int v;
        int place;
        int found;
        boolean called;
        boolean out;
        final int[] row = new int[ROW_PARTS];

        void begin(int itsKind, int itsV, int itsPlace) {
            kind = itsKind;
            v = itsV;
            place = itsPlace;
            found = 0;
            called = false;
            out = false;
            for (int part = 0; part < ROW_PARTS; part++) {
                row[part] = 0;
            }
        }

        void copyFrom(Person other) {
            kind = other.kind;
            v = other.v;
            place = other.place;
            found = other.found;
            called = other.called;
            out = other.out;
            System.arraycopy(other.row, 0, row, 0, ROW_PARTS);
        }
    }

    /** Gates, people and the keeper at one minute, and how a minute goes. */
    private static final class Park {
        final int[] gatePlaces = new int[MOST_GATES];
        final Person[] persons = new Person[MOST_PEOPLE];
        final int[] round = new int[MOST_ROUND];
        final int[] facts = new int[Dusk.LETTERS];
        int gates;
        int shutGates;
        int people;
        int keeper;
        int rounds;
        int at;
        int minute;
        Dusk dusk = new Dusk();
        // What is only tried: 0 is the dusk's own pace, -1 no gate that is kept open.
        int otherPace;
        int waiting;
        int openGate = -1;

        Park() {
            for (int i = 0; i < MOST_PEOPLE; i++) {
                persons[i] = new Person();
            }
        }

        void copyFrom(Park other) {
            System.arraycopy(other.gatePlaces, 0, gatePlaces, 0, MOST_GATES);
            System.arraycopy(other.round, 0, round, 0, MOST_ROUND);
            for (int i = 0; i < other.people; i++) {
                persons[i].copyFrom(other.persons[i]);
            }
            gates = other.gates;
            shutGates = other.shutGates;
            people = other.people;
            keeper = other.keeper;
            rounds = other.rounds;
            at = other.at;
            minute = other.minute;
            dusk = other.dusk;
            otherPace = 0;
            waiting = 0;
            openGate = -1;
        }

        boolean hasGate(int gate) {
            return gate >= 0 && gate < gates;
        }

        boolean hasPerson(int person) {
            return person >= 0 && person < people;
        }

        int addGate(int place) {
            gatePlaces[gates] = place;
            gates++;
            return gates - 1;
        }

        int addPerson(int kind, int v, int place) {
            persons[people].begin(kind, v, place);
            people++;
            return people - 1;
        }

        boolean isShut(int gate) {
            return (shutGates >> gate & 1) == 1;
        }

        void setShut(int gate, boolean is) {
            shutGates = is ? shutGates | 1 << gate : shutGates & ~(1 << gate);
        }

        void setDown(int person, int place) {
            persons[person].place = place;
            persons[person].out = false;
        }

        void endRound() {
            rounds = 0;
            at = 0;
            keeper = 0;
        }

        void beginRoundWith(int number) {
            for (int turn = 0; turn < number; turn++) {
                int ahead = round[0];
                System.arraycopy(round, 1, round, 0, rounds - 1);
                round[rounds - 1] = ahead;
            }
            at = 0;
        }

        void swapInRound(int one, int other) {
            int gate = round[one];
            round[one] = round[other];
            round[other] = gate;
        }

        void keepOpen(int gate) {
            setShut(gate, false);
            openGate = gate;
        }

        /** Nobody's way hangs on another's: who is asked about one need not let the others walk. */
        void sendOthersOut(int person) {
            for (int i = 0; i < people; i++) {
                persons[i].out = i != person;
            }
        }

        int outBits() {
            int bits = 0;
            for (int i = 0; i < people; i++) {
                if (persons[i].out) {
                    bits |= 1 << i;
                }
            }
            return bits;
        }

        int inside() {
            return people - Integer.bitCount(outBits());
        }

        int leftBehind() {
            for (int n = 0; n < LEFT_MINUTES && inside() > 0; n++) {
                passMinute();
            }
            return inside();
        }

        void passMinutes(int n) {
            for (int i = 0; i < n; i++) {
                passMinute();
            }
        }

        /** All goes by how all was ahead of the minute: people change nothing that others look at, so the keeper is last. */
        void passMinute() {
            for (int i = 0; i < people; i++) {
                Person one = persons[i];
                if (!one.out && (one.called || hears(i))) {
                    walk(one);
                }
            }
            goRound();
            minute++;
        }

        private void walk(Person one) {
            one.called = true;
            int gate = goal(one);
            if (!hasGate(gate)) {
                return;
            }
            one.place = toward(one.place, gatePlaces[gate], steps(one));
            if (one.place != gatePlaces[gate]) {
                return;
            }
            if (isShut(gate)) {
                one.found |= 1 << gate;
            } else {
                one.out = true;
            }
        }

        private void goRound() {
            if (waiting > 0) {
                waiting--;
                return;
            }
            if (at >= rounds) {
                return;
            }
            int gate = round[at];
            keeper = toward(keeper, gatePlaces[gate], otherPace > 0 ? otherPace : dusk.pace);
            if (keeper != gatePlaces[gate]) {
                return;
            }
            if (gate != openGate) {
                setShut(gate, true);
            }
            at++;
        }

        int ears(int person) {
            Person one = persons[person];
            facts[0] = person;
            facts[1] = one.kind;
            facts[2] = one.v;
            facts[3] = one.place;
            facts[4] = Integer.bitCount(one.found);
            facts[5] = minute % 10;
            return dusk.earsBy(facts);
        }

        boolean hears(int person) {
            return way(persons[person].place, keeper) <= dusk.bell + ears(person);
        }

        int steps(Person one) {
            switch (one.kind) {
                case OLD: return 1;
                case CHILD: return minute % 3 == 0 ? 0 : 3;
                case LAME: return minute % 2 == 1 ? 0 : 1;
                case RUNNING: return minute % 3 == 0 ? 1 : 4;
                case TOLD: return 2 + one.row[minute % ROW_PARTS];
                default: return 2;
            }
        }

        int goal(Person one) {
            boolean flees = one.kind == TRAMP || one.kind == TOLD;
            int best = NOT_ANY;
            int bestWay = 0;
            for (int gate = 0; gate < gates; gate++) {
                if ((one.found >> gate & 1) == 0) {
                    // A longer way from the keeper is told as a lesser number.
                    int way = flees ? -way(keeper, gatePlaces[gate]) : way(one.place, gatePlaces[gate]);
                    if (best < 0 || way < bestWay) {
                        best = gate;
                        bestWay = way;
                    }
                }
            }
            return best;
        }

        private static int way(int one, int other) {
            int up = Math.floorMod(other - one, PLACES);
            return Math.min(up, PLACES - up);
        }

        private static int toward(int from, int to, int steps) {
            int up = Math.floorMod(to - from, PLACES);
            int far = Math.min(steps, Math.min(up, PLACES - up));
            return Math.floorMod(up * 2 <= PLACES ? from + far : from - far, PLACES);
        }
    }

    /** A dusk that has been read: a small program that adds up ears, and the last bell and pace. */
    private static final class Dusk {
        static final int LETTERS = 6;
        static final int NOT = -1, AND = -2, OR = -3;
        // Below KEEN a code is a test: 300 by the letter, 100 by the sign, and the number.
        static final int BY_LETTER = 300, BY_SIGN = 100, KEEN = 2000, DEAF = 3000;
        static final int BELL_WITHOUT = 8, PACE_WITHOUT = 3;

        final int[] codes = new int[MOST_SIGNS];
        int size;
        int bell = BELL_WITHOUT;
        int pace = PACE_WITHOUT;

        void empty() {
            size = 0;
            bell = BELL_WITHOUT;
            pace = PACE_WITHOUT;
        }

        void addCode(int code) {
            // Each code has a sign of its own in the text, so there is always room.
            if (size < codes.length) {
                codes[size] = code;
                size++;
            }
        }

        int earsBy(int[] facts) {
            int ears = 0;
            // The lowest bit is the newest of what is known to hold or not.
            int known = 0;
            for (int i = 0; i < size; i++) {
                int code = codes[i];
                int newest = known & 1;
                if (code >= DEAF) {
                    ears -= newest * (code - DEAF);
                    known >>= 1;
                } else if (code >= KEEN) {
                    ears += newest * (code - KEEN);
                    known >>= 1;
                } else if (code == NOT) {
                    known ^= 1;
                } else if (code == AND) {
                    known = known >> 1 & (newest | ~1);
                } else if (code == OR) {
                    known = known >> 1 | newest;
                } else {
                    known = known << 1 | bit(testHolds(code, facts));
                }
            }
            return ears;
        }

        private static boolean testHolds(int code, int[] facts) {
            int letter = code / BY_LETTER;
            if (letter < 0 || letter >= facts.length) {
                return false;
            }
            int number = code % BY_SIGN;
            switch (code / BY_SIGN % 3) {
                case 0: return facts[letter] < number;
                case 1: return facts[letter] == number;
                default: return facts[letter] > number;
            }
        }
    }

    /** Holds the text and reads it; each part says whether it stands, and if not, at is the fault. */
    private static final class Reader {
        final byte[] text = new byte[MOST_SIGNS];
        int length;
        private int at;
        private Dusk dusk = new Dusk();

        int addSign(int sign) {
            text[length] = (byte) sign;
            length++;
            return length;
        }

        /** Answers the fault, or -1. */
        int readInto(Dusk read) {
            dusk = read;
            dusk.empty();
            at = 0;
            for (int clauses = 1; clauses <= MOST_CLAUSES; clauses++) {
                if (!readClause()) {
                    return at;
                }
                if (at == length) {
                    return -1;
                }
                if (clauses == MOST_CLAUSES || !skip(';')) {
                    return at;
                }
            }
            return at;
        }

        private boolean isNext(char sign) {
            return at < length && text[at] == sign;
        }

        private boolean skip(char sign) {
            if (!isNext(sign)) {
                return false;
            }
            at++;
            return true;
        }

        private boolean readClause() {
            boolean isKeen = isNext('k');
            boolean isDeaf = isNext('d');
            boolean isBell = isNext('b');
            if (!readWord(isKeen ? "keen " : isDeaf ? "deaf " : isBell ? "bell " : "pace ")) {
                return false;
            }
            int n = readNumber();
            if (n < 0) {
                return false;
            }
            if (isBell) {
                dusk.bell = n;
                return true;
            }
            if (!isKeen && !isDeaf) {
                dusk.pace = Math.max(1, Math.min(QUICKEST, n));
                return true;
            }
            if (!skip(' ') || !readEither(0)) {
                return false;
            }
            dusk.addCode((isKeen ? Dusk.KEEN : Dusk.DEAF) + n);
            return true;
        }

        private boolean readWord(String word) {
            for (int i = 0; i < word.length(); i++) {
                if (!skip(word.charAt(i))) {
                    return false;
                }
            }
            return true;
        }

        /** -1: there is none. */
        private int readNumber() {
            int n = -1;
            for (int digits = 0; digits < 2 && at < length && text[at] >= '0' && text[at] <= '9'; digits++) {
                n = Math.max(n, 0) * 10 + text[at] - '0';
                at++;
            }
            return n;
        }

        private boolean readEither(int within) {
            if (!readBoth(within)) {
                return false;
            }
            for (int more = 0; more < MOST_SIGNS && skip('|'); more++) {
                if (!readBoth(within)) {
                    return false;
                }
                dusk.addCode(Dusk.OR);
            }
            return true;
        }

        private boolean readBoth(int within) {
            if (!readPart(within)) {
                return false;
            }
            for (int more = 0; more < MOST_SIGNS && skip('&'); more++) {
                if (!readPart(within)) {
                    return false;
                }
                dusk.addCode(Dusk.AND);
            }
            return true;
        }

        private boolean readPart(int within) {
            boolean isNot = isNext('!');
            if (!isNot && !isNext('(')) {
                return readTest();
            }
            if (within >= DEEPEST_PART) {
                return false;
            }
            at++;
            return isNot ? readBehindNot(within + 1) : readEither(within + 1) && skip(')');
        }

        private boolean readBehindNot(int within) {
            if (!readPart(within)) {
                return false;
            }
            dusk.addCode(Dusk.NOT);
            return true;
        }

        private boolean readTest() {
            int letter = readOneOf("pkvwfm");
            if (letter < 0) {
                return false;
            }
            int sign = readOneOf("<=>");
            if (sign < 0) {
                return false;
            }
            int n = readNumber();
            if (n < 0) {
                return false;
            }
            dusk.addCode(letter * Dusk.BY_LETTER + sign * Dusk.BY_SIGN + n);
            return true;
        }

        /** -1: none of these signs is next. */
        private int readOneOf(String signs) {
            int which = at < length ? signs.indexOf((char) text[at]) : -1;
            if (which >= 0) {
                at++;
            }
            return which;
        }
    }

    /** Rows of up to three numbers, told by hand. */
    private static final class Rows {
        final int[] first;
        final int[] second;
        final int[] third;
        int size;

        Rows(int most) {
            first = new int[most];
            second = new int[most];
            third = new int[most];
        }

        boolean isFull() {
            return size >= first.length;
        }

        int addRow(int one, int two, int three) {
            first[size] = one;
            second[size] = two;
            third[size] = three;
            size++;
            return size;
        }

        void copyFrom(Rows other) {
            size = Math.min(other.size, first.length);
            System.arraycopy(other.first, 0, first, 0, size);
            System.arraycopy(other.second, 0, second, 0, size);
            System.arraycopy(other.third, 0, third, 0, size);
        }
    }

    /** What undo goes back to; the dusk that holds is the park's. */
    private static final class Image {
        final Park park = new Park();
        final Rows seen = new Rows(MOST_SEEN);
        final Rows evening = new Rows(MOST_EVENING);
        final Rows book = new Rows(MOST_BOOK);
        boolean isTaken;
    }

    /** Runs the bodies of the kinds and keeps their trace. */
    private static final class Acts {
        final int[] trace = new int[TRACE_KEPT];
        int ran;
        private int kind;
        private int number;
        private int v;

        int begin(int person, Person one, int act, int x) {
            number = person;
            kind = one.kind;
            v = one.v;
            return run(kind, act, x, 0);
        }

        /** The body of that kind, or of the next above it that has one; for super, the kind is the one above the body's. */
        private int run(int fromKind, int act, int x, int depth) {
            if (depth > DEEPEST_ACT) {
                return 0;
            }
            int body = bodyOf(fromKind, act);
            keep(body);
            return answerOf(body, x, depth + 1);
        }

        private int answerOf(int body, int x, int deeper) {
            switch (body) {
                case 10: return x + number;
                case 11: return run(kind, WAITS, x, deeper) - v;
                case 12: return run(kind, WALKS, x, deeper) * 2;
                case 20: return run(KIND_ABOVE[OLD], WALKS, x, deeper) ^ 6;
                case 30: return run(KIND_ABOVE[CHILD], WAITS, x * 3, deeper);
                case 40: return run(KIND_ABOVE[TRAMP], TELLS, x, deeper) + run(kind, WALKS, 1, deeper);
                case 50: return -run(KIND_ABOVE[LAME], WAITS, x, deeper);
                case 51: return run(KIND_ABOVE[LAME], WALKS, x + 1, deeper);
                case 60: return run(KIND_ABOVE[RUNNING], TELLS, x - number, deeper);
                case 70: return run(KIND_ABOVE[TOLD], WALKS, x, deeper) + run(KIND_ABOVE[TOLD], WAITS, 2, deeper);
                default: return run(KIND_ABOVE[TOLD], WAITS, x, deeper) ^ v;
            }
        }

        private static int bodyOf(int fromKind, int act) {
            int k = fromKind;
            // The topmost kind has a body for every act.
            for (int up = 0; up < KINDS && k > 0 && BODIES[k * ACTS + act] == 0; up++) {
                k = KIND_ABOVE[k];
            }
            return BODIES[k * ACTS + act];
        }

        private void keep(int body) {
            if (ran < TRACE_KEPT) {
                trace[ran] = body;
            }
            ran++;
        }
    }

    /** A row of items of one sort; items are kept as longs that their sort could hold. */
    private static final class Tape {
        final long[] items = new long[MOST_ITEMS];
        int sort = HOLDS_NOTHING;
        int size;

        void become(int itsSort, int itsSize) {
            sort = itsSort;
            size = itsSize;
            for (int i = 0; i < MOST_ITEMS; i++) {
                items[i] = 0;
            }
        }

        boolean hasItem(int i) {
            return i >= 0 && i < size;
        }

        boolean hasItems(int from, int n) {
            return from >= 0 && n >= 0 && n <= size - from;
        }

        long narrowed(long v) {
            switch (sort) {
                case BYTES: return (byte) v;
                case SHORTS: return (short) v;
                case INTS: return (int) v;
                case LONGS: return v;
                default: return v != 0 ? 1 : 0;
            }
        }
    }
}
