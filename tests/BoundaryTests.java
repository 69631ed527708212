import java.lang.reflect.Method;
import java.util.TreeMap;

// Boundary cases: each method is one sentence of the document that names one, under the promise that rests on it (... is
// what is left out of it). It asks at the last value that is allowed and at the first that is not. What is refused, or
// only asked, must change nothing: that is looked at by a twin, made by the same calls but without that one, and by all
// that can be asked of both.
public final class BoundaryTests {
    private interface Call {
        long on(LockedAtDusk x);
    }

    private interface Calls {
        void on(LockedAtDusk x);
    }

    private static final int NONE = -1, BAD = -2, STATE = -3, FULL = -4, NOT_ANY = -5;
    private static final int NOTHING = -11, CAST = -12, PLACE = -13, SIZE = -14, NONE_OF = -1001;
    private static final int BIG = Integer.MAX_VALUE, SMALL = Integer.MIN_VALUE;
    private static final long NO = Long.MIN_VALUE;
    private static final int ALL_PLACES = (1 << 30) - 1;
    private static final int PROMISES = 38;

    private static String test = "";
    private static String sentence = "";
    private static int wrong = 0;

    public static void main(String[] args) throws ReflectiveOperationException {
        TreeMap<String, Method> tests = new TreeMap<>();
        for (Method method : BoundaryTests.class.getDeclaredMethods()) {
            if (method.getName().matches("promise\\d\\d_\\w+")) {
                tests.put(method.getName(), method);
            }
        }
        for (String name : tests.keySet()) {
            test = name;
            sentence = "";
            tests.get(name).invoke(null);
        }
        for (int promise = 1; promise <= PROMISES; promise++) {
            String begin = "promise" + promise / 10 + promise % 10 + "_";
            if (tests.ceilingKey(begin) == null || !tests.ceilingKey(begin).startsWith(begin)) {
                wrong++;
                System.out.println("no test for promise " + promise);
            }
        }
        System.out.println(tests.size() + " sentences, " + wrong + " answers are not as due");
        if (wrong != 0) {
            System.exit(1);
        }
    }

    // ---- helpers

    private static void says(String words) {
        sentence = words;
    }

    private static void due(String call, long got, long want) {
        if (got != want) {
            wrong++;
            System.out.println(test + " (" + sentence + "): " + call + " answered " + got + ", due is " + want);
        }
    }

    private static void refused(Calls made, String call, Call asked, long want) {
        LockedAtDusk one = madeBy(made);
        LockedAtDusk twin = madeBy(made);
        due(call, asked.on(one), want);
        String unlike = firstUnlike(one, twin);
        if (!unlike.isEmpty()) {
            wrong++;
            System.out.println(test + " (" + sentence + "): " + call + " has changed " + unlike);
        }
    }

    private static void changesNothing(Calls made, String call, Call asked) {
        LockedAtDusk one = madeBy(made);
        refused(made, call, asked, asked.on(one));
    }

    private static LockedAtDusk fresh() {
        return new LockedAtDusk();
    }

    private static LockedAtDusk madeBy(Calls made) {
        LockedAtDusk x = fresh();
        made.on(x);
        return x;
    }

    private static LockedAtDusk withGates(int... places) {
        LockedAtDusk x = fresh();
        for (int place : places) {
            x.gate(place);
        }
        return x;
    }

    private static void feedAll(LockedAtDusk x, String text) {
        for (int i = 0; i < text.length(); i++) {
            x.feed(text.charAt(i));
        }
    }

    private static int duskOf(LockedAtDusk x, String text) {
        feedAll(x, text);
        return x.dusk();
    }

    /** -10: it is none, the text is a dusk. */
    private static int faultOf(String text) {
        return -10 - duskOf(fresh(), text);
    }

    private static void dueDusk(String text) {
        due("\"" + text + "\"", duskOf(fresh(), text), 0);
    }

    private static void dueFault(String text, int fault) {
        due("the fault of \"" + text + "\"", faultOf(text), fault);
    }

    private static void passAll(LockedAtDusk x, int minutes) {
        int left = minutes;
        for (int i = 0; i < 200 && left > 0; i++) {
            x.pass(Math.min(60, left));
            left -= Math.min(60, left);
        }
    }

    private static int bits(int from, int to) {
        int all = 0;
        for (int i = from; i <= to; i++) {
            all |= 1 << i;
        }
        return all;
    }

    // ---- what a twin is compared by

    private static final class Answers {
        final StringBuilder calls = new StringBuilder();

        void add(String call, long answer) {
            calls.append(call).append(" = ").append(answer).append('\n');
        }
    }

    private static String firstUnlike(LockedAtDusk one, LockedAtDusk twin) {
        String[] all = allOf(one).split("\n");
        String[] twins = allOf(twin).split("\n");
        for (int i = 0; i < all.length; i++) {
            if (!all[i].equals(twins[i])) {
                return all[i] + ", but for its twin " + twins[i];
            }
        }
        return "";
    }

    /** Asks all that can be asked, and then makes the calls that show what can't be asked. */
    private static String allOf(LockedAtDusk x) {
        Answers a = new Answers();
        askPark(a, x);
        askMinutes(a, x);
        askTold(a, x);
        for (int i = 0; i < 5; i++) {
            a.add("trace " + i, x.trace(i));
        }
        for (int tape = 0; tape < 6; tape++) {
            a.add("judge " + tape, x.judge(tape, 0));
            for (int i = 0; i < 3; i++) {
                a.add("read " + tape + ", " + i, x.read(tape, i));
            }
        }
        a.add("dusk", x.dusk());
        a.add("bell", x.told(1));
        a.add("pace", x.told(2));
        askRows(a, x);
        a.add("undo", x.undo());
        askPark(a, x);
        askTold(a, x);
        askRows(a, x);
        return a.calls.toString();
    }

    private static void askPark(Answers a, LockedAtDusk x) {
        for (int what = 0; what < 16; what++) {
            a.add("told " + what, x.told(what));
        }
        for (int person = 0; person < 6; person++) {
            for (int what = 0; what < 7; what++) {
                a.add("of " + person + ", " + what, x.of(person, what));
            }
        }
        for (int what = 0; what < 9; what++) {
            a.add("count " + what, x.count(what));
        }
    }

    private static void askMinutes(Answers a, LockedAtDusk x) {
        for (int n = 1; n < 30; n += 9) {
            for (int what = 0; what < 3; what++) {
                a.add("on " + n + ", " + what, x.on(n, what));
            }
            for (int person = 0; person < 6; person++) {
                a.add("on " + n + ", place " + person, x.on(n, 10 + person));
                a.add("on " + n + ", found " + person, x.on(n, 20 + person));
            }
        }
        for (int what = 0; what < 6; what++) {
            a.add("best " + what, x.best(what));
            a.add("hides " + what, x.hides(what));
        }
    }

    private static void askTold(Answers a, LockedAtDusk x) {
        for (int person = 0; person < 2; person++) {
            a.add("where " + person, x.where(person, 0));
            a.add("can " + person, x.can(person, 0));
        }
        a.add("gone 0", x.gone(0));
        a.add("gone 1", x.gone(1));
        a.add("looked", x.looked());
    }

    private static void askRows(Answers a, LockedAtDusk x) {
        for (int person = 0; person < 2; person++) {
            for (int part = 0; part < 4; part++) {
                a.add("row " + person + ", " + part, x.row(person, part, 0));
            }
        }
    }

    // ---- how it may be when a call is refused

    private static void newOne(LockedAtDusk x) {
    }

    /** Something of everything, an image that is otherwise, and a text that is a dusk. */
    private static void somePark(LockedAtDusk x) {
        x.gate(4);
        x.gate(12);
        x.gate(20);
        x.person(0, 6, 7);
        x.person(6, 5, 15);
        x.person(2, 3, 22);
        x.row(1, 0, 1);
        x.row(1, 2, 7);
        x.round(1);
        x.round(2);
        x.round(0);
        duskOf(x, "bell 5;pace 2;keen 3 v>4");
        x.shut(2, true);
        x.see(0, true, 4);
        x.evening(0, 0);
        x.evening(2, 1);
        x.evening(3, 2);
        x.book(0, 7);
        x.book(2, 22);
        x.image();
        x.pass(2);
        x.call(2, true);
        x.round(0);
        x.shut(0, true);
        x.see(1, false, 2);
        x.evening(1, 2);
        x.book(1, 3);
        x.row(1, 1, 3);
        feedAll(x, "bell 5;pace 4");
        x.tape(0, 0, 4);
        x.item(0, 0, x.of(0, 2));
        x.item(0, 1, 9);
        x.tape(1, 3, 3);
        x.item(1, 2, 1L << 40);
        x.tape(2, 4, 2);
        x.item(2, 1, 5);
        x.tape(3, 0, 0);
        x.act(1, 1, 5);
    }

    /** As many as may be of everything but the text. */
    private static void fullPark(LockedAtDusk x) {
        for (int i = 0; i < 6; i++) {
            x.gate(5 * i);
            x.person(6 - i, i, 29 - 4 * i);
        }
        for (int i = 0; i < 6; i++) {
            x.round(5 - i);
            duskOf(x, "bell " + (i + 1));
        }
        for (int i = 0; i < 5; i++) {
            x.see(i, i == 1, 20 - i);
        }
        for (int i = 0; i < 10; i++) {
            x.evening(i % 4, i % 6);
        }
        for (int i = 0; i < 8; i++) {
            x.book(i % 6, 29 - 4 * (i % 6));
        }
        x.row(0, 3, 9);
        x.call(3, true);
        x.image();
        x.pass(1);
        x.feed('b');
    }

    private static void fullText(LockedAtDusk x) {
        x.gate(3);
        x.person(0, 0, 9);
        feedAll(x, hundred());
    }

    /** A text of 100 signs that is a dusk. */
    private static String hundred() {
        return "bell 77;keen 11 " + "p=0|".repeat(20) + "w=09";
    }

    private static void lastMinute(LockedAtDusk x) {
        passAll(x, 9999);
    }

    // ---- 1 a new object

    static void promise01_noGatesNobodyNoDusk() {
        says("No GATES, nobody, no DUSK.");
        LockedAtDusk x = fresh();
        for (int what = 0; what <= 8; what++) {
            due("count(" + what + ")", x.count(what), 0);
        }
        due("told(10)", x.told(10), NONE);
        due("of(0, 0)", x.of(0, 0), NONE_OF);
        due("the first gate", x.gate(7), 0);
        due("the first of the people", x.person(0, 0, 7), 0);
        due("the first dusk", duskOf(x, "bell 1"), 0);
    }

    static void promise01_atFirst() {
        says("THE KEEPER: a PLACE (0 at first) ... MINUTE: 0 at first ... TAPES 0 .. 5 hold nothing (at first)");
        LockedAtDusk x = fresh();
        int[] told = {0, 8, 3, 0, 0, 0, 0};
        for (int what = 0; what < told.length; what++) {
            due("told(" + what + ")", x.told(what), told[what]);
        }
        for (int tape = 0; tape < 6; tape++) {
            due("read(" + tape + ", 0)", x.read(tape, 0), NO);
            due("item(" + tape + ", 0, 1)", x.item(tape, 0, 1), NOTHING);
        }
        due("trace(0)", x.trace(0), NONE);
        due("undo()", x.undo(), STATE);
        due("looked()", x.looked(), NOT_ANY);
        due("gone(0)", x.gone(0), 0);
        due("gone(1)", x.gone(1), 0);
    }

    static void promise01_oneObjectIsNotAnother() {
        says("What is answered so changes nothing");
        LockedAtDusk one = fresh();
        LockedAtDusk twin = fresh();
        LockedAtDusk other = madeBy(BoundaryTests::fullPark);
        due("another's people", other.count(0), 6);
        due("it is as its twin", firstUnlike(one, twin).length(), 0);
    }

    // ---- 2 gate

    static void promise02_placesAre0To29() {
        says("PLACES 0 .. 29 ... BAD: place");
        LockedAtDusk x = fresh();
        due("gate(0)", x.gate(0), 0);
        due("gate(29)", x.gate(29), 1);
        due("place of 0", x.told(10), 0);
        due("place of 1", x.told(11), 29);
        for (int place : new int[] {-1, 30, SMALL, BIG}) {
            refused(BoundaryTests::newOne, "gate(" + place + ")", y -> y.gate(place), BAD);
            refused(BoundaryTests::somePark, "gate(" + place + ")", y -> y.gate(place), BAD);
        }
    }

    static void promise02_sixGatesAtMost() {
        says("GATES 0 .. 5, as they come ... FULL: 6");
        LockedAtDusk x = fresh();
        for (int gate = 0; gate < 6; gate++) {
            due("gate(3)", x.gate(3), gate);
            due("count(1)", x.count(1), gate + 1);
        }
        due("a seventh", x.gate(3), FULL);
        refused(BoundaryTests::fullPark, "a seventh", y -> y.gate(3), FULL);
    }

    static void promise02_badAheadOfFull() {
        says("BAD: place; FULL: 6 ... the first that a call's words name");
        refused(BoundaryTests::fullPark, "gate(30)", y -> y.gate(30), BAD);
        refused(BoundaryTests::fullPark, "gate(-1)", y -> y.gate(-1), BAD);
    }

    static void promise02_notShutAtFirst() {
        says("each at a PLACE, SHUT, or not (not at first)");
        LockedAtDusk x = fresh();
        x.image();
        for (int gate = 0; gate < 6; gate++) {
            x.gate(gate);
            due("shut at first", x.told(5), 0);
        }
        for (int gate = 0; gate < 6; gate++) {
            x.shut(gate, true);
        }
        due("all are shut", x.told(5), 63);
        x.undo();
        x.gate(5);
        due("a new first gate", x.told(5), 0);
    }

    // ---- 3 person

    static void promise03_kindsAre0To6() {
        says("are of KINDS: 0 PERSON ... 6 TOLD ... NONE: kind");
        for (int kind = 0; kind <= 6; kind++) {
            LockedAtDusk x = fresh();
            due("person(" + kind + ", 1, 1)", x.person(kind, 1, 1), 0);
            due("its kind", x.of(0, 0), kind);
        }
        for (int kind : new int[] {-1, 7, SMALL, BIG}) {
            refused(BoundaryTests::newOne, "person(" + kind + ", 0, 0)", y -> y.person(kind, 0, 0), NONE);
            refused(BoundaryTests::somePark, "person(" + kind + ", 0, 0)", y -> y.person(kind, 0, 0), NONE);
        }
    }

    static void promise03_vIs0To9() {
        says("with a number v (0 .. 9) ... BAD: v");
        LockedAtDusk x = fresh();
        x.person(0, 0, 1);
        x.person(0, 9, 1);
        due("v 0", x.of(0, 1), 0);
        due("v 9", x.of(1, 1), 9);
        for (int v : new int[] {-1, 10, SMALL, BIG}) {
            refused(BoundaryTests::somePark, "person(0, " + v + ", 0)", y -> y.person(0, v, 0), BAD);
        }
    }

    static void promise03_placesAre0To29() {
        says("PLACES 0 .. 29 ... BAD: v, place");
        LockedAtDusk x = fresh();
        x.person(0, 0, 0);
        x.person(0, 0, 29);
        due("place 0", x.of(0, 2), 0);
        due("place 29", x.of(1, 2), 29);
        for (int place : new int[] {-1, 30, SMALL, BIG}) {
            refused(BoundaryTests::somePark, "person(0, 0, " + place + ")", y -> y.person(0, 0, place), BAD);
        }
    }

    static void promise03_sixPeopleAtMost() {
        says("PEOPLE 0 .. 5, as they come ... FULL: 6");
        LockedAtDusk x = fresh();
        for (int person = 0; person < 6; person++) {
            due("person(3, 2, 1)", x.person(3, 2, 1), person);
            due("count(0)", x.count(0), person + 1);
        }
        due("a seventh", x.person(3, 2, 1), FULL);
        refused(BoundaryTests::fullPark, "a seventh", y -> y.person(3, 2, 1), FULL);
    }

    static void promise03_orderOfRefusals() {
        says("NONE: kind; BAD: v, place; FULL: 6 ... the first that a call's words name");
        refused(BoundaryTests::fullPark, "person(7, 10, 30)", y -> y.person(7, 10, 30), NONE);
        refused(BoundaryTests::fullPark, "person(-1, 0, 0)", y -> y.person(-1, 0, 0), NONE);
        refused(BoundaryTests::fullPark, "person(0, 10, 0)", y -> y.person(0, 10, 0), BAD);
        refused(BoundaryTests::fullPark, "person(0, 0, 30)", y -> y.person(0, 0, 30), BAD);
        refused(BoundaryTests::newOne, "person(7, 10, 30)", y -> y.person(7, 10, 30), NONE);
    }

    static void promise03_notAtFirst() {
        says("CALLED, or not (not at first), FOUND ... none at first), OUT, or not (not at first) ... its ROW ... 0 at first)");
        LockedAtDusk x = withGates(2, 4);
        x.image();
        x.person(6, 1, 2);
        x.shut(0, true);
        for (int part = 0; part < 4; part++) {
            x.row(0, part, 9);
        }
        x.pass(1);
        due("the keeper is at 0: it goes to gate 1", x.of(0, 5), 1);
        x.put(0, 2);
        x.shut(1, true);
        x.pass(2);
        due("it has found both shut", x.of(0, 4), 3);
        x.gate(2);
        x.pass(1);
        due("it is out by the third", x.of(0, 5), 1);
        x.undo();
        x.person(6, 2, 3);
        due("called", x.of(0, 3), 0);
        due("found", x.of(0, 4), 0);
        due("out", x.of(0, 5), 0);
        for (int part = 0; part < 4; part++) {
            due("row " + part, x.row(0, part, 1), 0);
        }
    }

    // ---- 4 of

    static void promise04_peopleAndWhats() {
        says("Of a PERSON what 0 KIND ... 9 GOAL (-5). -1001: NONE.");
        LockedAtDusk x = madeBy(BoundaryTests::fullPark);
        int[] last = {1, 5, 9};
        for (int what = 0; what < last.length; what++) {
            due("of(5, " + what + ")", x.of(5, what), last[what]);
        }
        due("of(0, 9)", x.of(0, 9) >= 0 ? 1 : 0, 1);
        for (int person : new int[] {-1, 6, SMALL, BIG}) {
            refused(BoundaryTests::fullPark, "of(" + person + ", 0)", y -> y.of(person, 0), NONE_OF);
        }
        for (int what : new int[] {-1, 10, SMALL, BIG}) {
            refused(BoundaryTests::fullPark, "of(0, " + what + ")", y -> y.of(0, what), NONE_OF);
        }
        refused(BoundaryTests::newOne, "of(0, 0)", y -> y.of(0, 0), NONE_OF);
        refused(BoundaryTests::somePark, "of(3, 0)", y -> y.of(3, 0), NONE_OF);
    }

    static void promise04_asksAlone() {
        says("what is asked changes nothing");
        for (int asked = 0; asked <= 9; asked++) {
            int what = asked;
            changesNothing(BoundaryTests::somePark, "of(1, " + what + ")", y -> y.of(1, what));
        }
    }

    static void promise04_earsMayBeBelow0() {
        says("the n of all keen whose E holds, less those of all deaf, together (may be below 0)");
        LockedAtDusk x = fresh();
        x.person(0, 0, 0);
        due("no dusk", x.of(0, 6), 0);
        duskOf(x, "keen 1 p=0;deaf 1 p=0");
        due("0", x.of(0, 6), 0);
        duskOf(x, "keen 1 p=0;deaf 2 p=0");
        due("-1", x.of(0, 6), -1);
        String most = "deaf 99 p<9;".repeat(7) + "deaf 99 p<9";
        due("eight times 99", duskOf(x, most), 2);
        due("less eight times 99", x.of(0, 6), -792);
        duskOf(x, most.replace("deaf", "keen"));
        due("eight times 99", x.of(0, 6), 792);
    }

    static void promise04_hearsIfNoMore() {
        says("WAY from its PLACE to THE KEEPER is no more than BELL and EARS, together");
        LockedAtDusk x = fresh();
        x.person(0, 0, 8);
        x.person(0, 0, 9);
        x.person(0, 0, 22);
        x.person(0, 0, 21);
        due("8: 8 upward", x.of(0, 7), 1);
        due("8: 9 upward", x.of(1, 7), 0);
        due("8: 8 downward", x.of(2, 7), 1);
        due("8: 9 downward", x.of(3, 7), 0);
        duskOf(x, "bell 7;keen 1 p=0");
        due("7 and 1: 8", x.of(0, 7), 1);
        duskOf(x, "bell 7;keen 1 p=1");
        due("7 and 1: 9", x.of(1, 7), 0);
        duskOf(x, "bell 9;deaf 1 p<9");
        due("9 less 1: 8", x.of(0, 7), 1);
        due("9 less 1: 9", x.of(1, 7), 0);
    }

    static void promise04_hearsBelow0() {
        says("EARS of a PERSON: ... (may be below 0)");
        LockedAtDusk x = fresh();
        x.person(0, 0, 0);
        duskOf(x, "bell 0");
        due("0 at 0", x.of(0, 7), 1);
        duskOf(x, "bell 0;deaf 1 p=0");
        due("-1 at 0", x.of(0, 7), 0);
        duskOf(x, "bell 2;deaf 2 p=0");
        due("2 less 2 at 0", x.of(0, 7), 1);
        duskOf(x, "bell 2;deaf 3 p=0");
        due("2 less 3 at 0", x.of(0, 7), 0);
    }

    static void promise04_waysAre0To15() {
        says("WAY of two PLACES: the shorter way in the ring (0 .. 15)");
        LockedAtDusk x = fresh();
        for (int place : new int[] {14, 15, 16, 0, 29, 1}) {
            x.person(0, 0, place);
        }
        duskOf(x, "bell 15");
        for (int person = 0; person < 6; person++) {
            due("15 is everywhere, " + person, x.of(person, 7), 1);
        }
        duskOf(x, "bell 14");
        int[] by14 = {1, 0, 1, 1, 1, 1};
        for (int person = 0; person < 6; person++) {
            due("14, " + person, x.of(person, 7), by14[person]);
        }
        duskOf(x, "bell 13");
        due("14 upward by 13", x.of(0, 7), 0);
        due("14 downward by 13", x.of(2, 7), 0);
        duskOf(x, "bell 1");
        due("29 by 1", x.of(4, 7), 1);
        due("1 by 1", x.of(5, 7), 1);
        duskOf(x, "bell 0");
        due("0 by 0", x.of(3, 7), 1);
        due("29 by 0", x.of(4, 7), 0);
        due("1 by 0", x.of(5, 7), 0);
    }

    static void promise04_stepsByMinute() {
        says("CHILD: 3, but 0, if MINUTE is a multiple of 3. LAME: ... 0, if MINUTE is odd. ... at MINUTE modulo 4 more");
        LockedAtDusk x = fresh();
        for (int kind = 1; kind <= 6; kind++) {
            x.person(kind, 0, 0);
        }
        for (int part = 0; part < 4; part++) {
            x.row(5, part, part == 0 ? 9 : part);
        }
        int[][] due = {
            {1, 0, 2, 1, 1, 11},
            {1, 3, 2, 0, 4, 3},
            {1, 3, 2, 1, 4, 4},
            {1, 0, 2, 0, 1, 5},
            {1, 3, 2, 1, 4, 11},
            {1, 3, 2, 0, 4, 3},
            {1, 0, 2, 1, 1, 4}};
        for (int minute = 0; minute < due.length; minute++) {
            for (int person = 0; person < 6; person++) {
                due("kind " + (person + 1) + " at " + minute, x.of(person, 8), due[minute][person]);
            }
            x.pass(1);
        }
        passAll(x, 9999 - due.length);
        due("minute", x.told(0), 9999);
        int[] last = {1, 0, 2, 0, 1, 5};
        for (int person = 0; person < 6; person++) {
            due("kind " + (person + 1) + " at 9999", x.of(person, 8), last[person]);
        }
    }

    static void promise04_goalOfSeveralTheFirst() {
        says("that to which the WAY is shortest ... (of several the first; -5: there are none)");
        LockedAtDusk x = withGates(12, 8, 10, 12, 8);
        x.person(0, 0, 10);
        due("the nearest", x.of(0, 9), 2);
        x.put(0, 11);
        due("10 and 12 are alike: the first", x.of(0, 9), 0);
        x.put(0, 9);
        due("8 and 10 are alike: the first", x.of(0, 9), 1);
        x.put(0, 25);
        due("12 and 8 are alike over 29: the first", x.of(0, 9), 0);
        LockedAtDusk none = fresh();
        none.person(0, 0, 3);
        none.person(3, 0, 3);
        none.person(6, 0, 3);
        for (int person = 0; person < 3; person++) {
            due("there are none, " + person, none.of(person, 9), NOT_ANY);
        }
    }

    static void promise04_goalOfTrampsOfSeveralTheFirst() {
        says("of TRAMPS, TOLD ones that to which the WAY from THE KEEPER is longest (of several the first");
        LockedAtDusk x = withGates(14, 16, 1, 14);
        x.person(3, 0, 1);
        x.person(6, 0, 16);
        due("14 either way: the first", x.of(0, 9), 0);
        due("14 either way: the first", x.of(1, 9), 0);
        x.gate(15);
        due("15 is longest", x.of(0, 9), 4);
        due("15 is longest", x.of(1, 9), 4);
        x.round(2);
        x.pass(1);
        due("the keeper is at 1", x.told(3), 1);
        due("16 is longest from there", x.of(1, 9), 1);
    }

    static void promise04_goalIsNoneIfAllAreFound() {
        says("of all GATES that it has not FOUND SHUT ... -5: there are none)");
        LockedAtDusk x = withGates(3, 3);
        x.person(0, 0, 3);
        x.person(3, 0, 3);
        x.shut(0, true);
        x.shut(1, true);
        due("two are left", x.of(0, 9), 0);
        x.pass(1);
        due("one is left", x.of(0, 9), 1);
        due("one is left", x.of(1, 9), 1);
        x.pass(1);
        due("none is left", x.of(0, 9), NOT_ANY);
        due("none is left", x.of(1, 9), NOT_ANY);
        due("found", x.of(0, 4), 3);
        x.gate(9);
        due("a new one is left", x.of(0, 9), 2);
        x.call(0, false);
        due("found none: the first", x.of(0, 9), 0);
    }

    // ---- 5 put

    static void promise05_places() {
        says("A PERSON is at a PLACE ... : where it was. ... BAD.");
        LockedAtDusk x = fresh();
        x.person(0, 0, 29);
        due("put(0, 0)", x.put(0, 0), 29);
        due("put(0, 29)", x.put(0, 29), 0);
        due("put(0, 29)", x.put(0, 29), 29);
        due("place", x.of(0, 2), 29);
        for (int place : new int[] {-1, 30, SMALL, BIG}) {
            refused(BoundaryTests::somePark, "put(0, " + place + ")", y -> y.put(0, place), BAD);
        }
    }

    static void promise05_people() {
        says("NONE; BAD.");
        LockedAtDusk x = madeBy(BoundaryTests::fullPark);
        due("put(5, 3)", x.put(5, 3), 9);
        for (int person : new int[] {-1, 6, SMALL, BIG}) {
            refused(BoundaryTests::fullPark, "put(" + person + ", 3)", y -> y.put(person, 3), NONE);
            refused(BoundaryTests::fullPark, "put(" + person + ", 30)", y -> y.put(person, 30), NONE);
        }
        refused(BoundaryTests::newOne, "put(0, 0)", y -> y.put(0, 0), NONE);
        refused(BoundaryTests::somePark, "put(3, 0)", y -> y.put(3, 0), NONE);
    }

    static void promise05_andNotOut() {
        says("A PERSON is at a PLACE, and not OUT");
        LockedAtDusk x = withGates(5);
        x.person(0, 0, 5);
        x.pass(1);
        due("out", x.told(6), 1);
        due("where it is", x.put(0, 5), 5);
        due("not out", x.told(6), 0);
        due("called", x.of(0, 3), 1);
        refused(y -> {
            y.gate(5);
            y.person(0, 0, 5);
            y.pass(1);
        }, "put(0, 30) of one that is out", y -> y.put(0, 30), BAD);
    }

    // ---- 6 call

    static void promise06_people() {
        says("whether it was. NONE.");
        LockedAtDusk x = madeBy(BoundaryTests::fullPark);
        due("call(5, true)", x.call(5, true), 0);
        due("call(5, true)", x.call(5, true), 1);
        due("call(5, false)", x.call(5, false), 1);
        due("call(5, false)", x.call(5, false), 0);
        for (int person : new int[] {-1, 6, SMALL, BIG}) {
            refused(BoundaryTests::fullPark, "call(" + person + ", true)", y -> y.call(person, true), NONE);
            refused(BoundaryTests::fullPark, "call(" + person + ", false)", y -> y.call(person, false), NONE);
        }
        refused(BoundaryTests::newOne, "call(0, true)", y -> y.call(0, true), NONE);
        refused(BoundaryTests::somePark, "call(3, false)", y -> y.call(3, false), NONE);
    }

    static void promise06_foundNoneThen() {
        says("CALLED, or not (then it has FOUND none SHUT)");
        LockedAtDusk x = withGates(0, 0, 9);
        x.shut(0, true);
        x.shut(1, true);
        x.person(0, 0, 0);
        x.person(0, 0, 0);
        x.pass(2);
        due("found by 0", x.of(0, 4), 3);
        due("called: it stays", x.call(0, true), 1);
        due("found by 0", x.of(0, 4), 3);
        due("not called", x.call(0, false), 1);
        due("found by 0", x.of(0, 4), 0);
        due("found by 1", x.of(1, 4), 3);
        x.pass(1);
        due("called anew", x.of(0, 3), 1);
        due("found by 0", x.of(0, 4), 1);
    }

    // ---- 7 shut

    static void promise07_gates() {
        says("A GATE is SHUT, or not: whether it was. NONE.");
        LockedAtDusk x = madeBy(BoundaryTests::fullPark);
        due("shut(5, true)", x.shut(5, true), 0);
        due("told(5)", x.told(5) >> 5, 1);
        due("shut(5, true)", x.shut(5, true), 1);
        due("shut(5, false)", x.shut(5, false), 1);
        due("told(5)", x.told(5) >> 5, 0);
        due("shut(5, false)", x.shut(5, false), 0);
        for (int gate : new int[] {-1, 6, 32, SMALL, BIG}) {
            refused(BoundaryTests::fullPark, "shut(" + gate + ", true)", y -> y.shut(gate, true), NONE);
            refused(BoundaryTests::fullPark, "shut(" + gate + ", false)", y -> y.shut(gate, false), NONE);
        }
        refused(BoundaryTests::newOne, "shut(0, true)", y -> y.shut(0, true), NONE);
        refused(BoundaryTests::somePark, "shut(3, false)", y -> y.shut(3, false), NONE);
    }

    static void promise07_oneAlone() {
        says("A GATE is SHUT, or not");
        LockedAtDusk x = withGates(1, 2, 3, 4, 5, 6);
        for (int gate = 0; gate < 6; gate++) {
            x.shut(gate, true);
            due("told(5)", x.told(5), bits(0, gate));
        }
        for (int gate = 0; gate < 6; gate++) {
            x.shut(gate, false);
            due("told(5)", x.told(5), bits(gate + 1, 5));
        }
    }

    // ---- 8 row

    static void promise08_partsAre0To3() {
        says("for MINUTES modulo 4 being part: what it was. NONE: person, part");
        LockedAtDusk x = madeBy(BoundaryTests::somePark);
        int[] was = {1, 3, 7, 0};
        for (int part = 0; part < 4; part++) {
            due("row(1, " + part + ", 8)", x.row(1, part, 8), was[part]);
            due("row(1, " + part + ", 0)", x.row(1, part, 0), 8);
        }
        for (int part : new int[] {-1, 4, SMALL, BIG}) {
            refused(BoundaryTests::somePark, "row(1, " + part + ", 2)", y -> y.row(1, part, 2), NONE);
        }
    }

    static void promise08_nIs0To9() {
        says("becomes n (0 .. 9) ... BAD");
        LockedAtDusk x = madeBy(BoundaryTests::somePark);
        due("row(1, 3, 9)", x.row(1, 3, 9), 0);
        due("row(1, 3, 0)", x.row(1, 3, 0), 9);
        for (int n : new int[] {-1, 10, SMALL, BIG}) {
            refused(BoundaryTests::somePark, "row(1, 1, " + n + ")", y -> y.row(1, 1, n), BAD);
        }
    }

    static void promise08_people() {
        says("NONE: person");
        LockedAtDusk x = fresh();
        for (int i = 0; i < 6; i++) {
            x.person(6, 0, 0);
        }
        due("row(5, 0, 1)", x.row(5, 0, 1), 0);
        due("another's", x.row(4, 0, 1), 0);
        for (int person : new int[] {-1, 6, SMALL, BIG}) {
            refused(BoundaryTests::fullPark, "row(" + person + ", 0, 0)", y -> y.row(person, 0, 0), NONE);
        }
        refused(BoundaryTests::newOne, "row(0, 0, 0)", y -> y.row(0, 0, 0), NONE);
        refused(BoundaryTests::somePark, "row(3, 0, 0)", y -> y.row(3, 0, 0), NONE);
    }

    static void promise08_anotherKind() {
        says("STATE: another KIND");
        for (int kind = 0; kind < 6; kind++) {
            int its = kind;
            refused(y -> y.person(its, 3, 4), "row of kind " + kind, y -> y.row(0, 0, 1), STATE);
        }
    }

    static void promise08_orderOfRefusals() {
        says("NONE: person, part; BAD; STATE: another KIND ... the first that a call's words name");
        refused(BoundaryTests::somePark, "row(3, 4, 10)", y -> y.row(3, 4, 10), NONE);
        refused(BoundaryTests::somePark, "row(0, 4, 10)", y -> y.row(0, 4, 10), NONE);
        refused(BoundaryTests::somePark, "row(1, 4, 10)", y -> y.row(1, 4, 10), NONE);
        refused(BoundaryTests::somePark, "row(0, -1, 1)", y -> y.row(0, -1, 1), NONE);
        refused(BoundaryTests::somePark, "row(0, 3, 10)", y -> y.row(0, 3, 10), BAD);
        refused(BoundaryTests::somePark, "row(0, 0, -1)", y -> y.row(0, 0, -1), BAD);
        refused(BoundaryTests::somePark, "row(0, 0, 9)", y -> y.row(0, 0, 9), STATE);
    }

    static void promise08_atMinuteModulo4() {
        says("its ROW (four numbers 0 .. 9; 0 at first) at MINUTE modulo 4 more");
        LockedAtDusk x = withGates(15);
        x.person(6, 0, 0);
        x.call(0, true);
        x.row(0, 3, 9);
        x.pass(3);
        due("0, 1, 2: two steps each", x.of(0, 2), 6);
        x.put(0, 0);
        x.pass(1);
        due("3: eleven steps", x.of(0, 2), 11);
        x.put(0, 0);
        x.pass(1);
        due("4: two steps", x.of(0, 2), 2);
        x.row(0, 1, 1);
        x.pass(1);
        due("5: three steps", x.of(0, 2), 5);
    }

    // ---- 9 round

    static void promise09_sixAtMost() {
        says("THE ROUND: GATES, one behind the other (6 at most; none at first) ... FULL: 6");
        LockedAtDusk x = withGates(7);
        for (int i = 1; i <= 6; i++) {
            due("round(0)", x.round(0), i);
            due("count(3)", x.count(3), i);
        }
        due("a seventh", x.round(0), FULL);
        refused(BoundaryTests::fullPark, "a seventh", y -> y.round(0), FULL);
    }

    static void promise09_gates() {
        says("NONE; FULL: 6 ... the first that a call's words name");
        LockedAtDusk x = madeBy(BoundaryTests::somePark);
        due("round(2)", x.round(2), 5);
        for (int gate : new int[] {-2, 3, SMALL, BIG}) {
            refused(BoundaryTests::somePark, "round(" + gate + ")", y -> y.round(gate), NONE);
        }
        for (int gate : new int[] {-2, 6}) {
            refused(BoundaryTests::fullPark, "round(" + gate + ")", y -> y.round(gate), NONE);
        }
        refused(BoundaryTests::newOne, "round(0)", y -> y.round(0), NONE);
    }

    static void promise09_emptyThen() {
        says("(-1: it is empty then, AT 0, THE KEEPER at PLACE 0: 0)");
        LockedAtDusk x = madeBy(BoundaryTests::fullPark);
        x.pass(3);
        due("the keeper", x.told(3), 20);
        due("at", x.told(4), 2);
        int shut = x.told(5);
        due("round(-1)", x.round(-1), 0);
        due("count(3)", x.count(3), 0);
        due("at", x.told(4), 0);
        due("the keeper", x.told(3), 0);
        due("shut as they were", x.told(5), shut);
        due("minute", x.told(0), 4);
        due("round(-1) again", x.round(-1), 0);
        due("the first then", x.round(5), 1);
        due("round(-1) of a new one", fresh().round(-1), 0);
    }

    static void promise09_behindAllOthers() {
        says("A GATE comes behind all others of THE ROUND");
        LockedAtDusk x = withGates(2, 4, 6);
        x.round(2);
        x.round(0);
        x.round(1);
        x.pass(2);
        due("6 first", x.told(5), 4);
        x.pass(2);
        due("then 2", x.told(5), 5);
        x.pass(1);
        due("then 4", x.told(5), 7);
        due("at", x.told(4), 3);
        x.pass(1);
        due("done: he stays", x.told(3), 4);
        due("at", x.told(4), 3);
        x.round(2);
        x.pass(1);
        due("then 6 again", x.told(3), 6);
        due("at", x.told(4), 4);
    }

    static void promise09_toldSixTimes() {
        says("AT, how many of these he is done with (0 at first)");
        LockedAtDusk x = withGates(0);
        for (int i = 0; i < 6; i++) {
            x.round(0);
        }
        for (int i = 0; i < 6; i++) {
            due("at", x.told(4), i);
            x.pass(1);
        }
        due("at, all", x.told(4), 6);
        x.pass(5);
        due("at, no further", x.told(4), 6);
        due("a seventh, though he is done with all", x.round(0), FULL);
    }

    // ---- 10 feed

    static void promise10_signsAre0To127() {
        says("A sign (0 .. 127) ... BAD");
        LockedAtDusk x = fresh();
        due("feed(0)", x.feed(0), 1);
        due("feed(127)", x.feed(127), 2);
        for (int sign : new int[] {-1, 128, SMALL, BIG, 256 + 'b'}) {
            refused(BoundaryTests::somePark, "feed(" + sign + ")", y -> y.feed(sign), BAD);
        }
    }

    static void promise10_hundredAtMost() {
        says("THE TEXT (bytes, 100 at most) ... how many it has. ... FULL");
        LockedAtDusk x = fresh();
        for (int i = 1; i <= 100; i++) {
            due("feed('b')", x.feed('b'), i);
            due("count(7)", x.count(7), i);
        }
        due("a 101st", x.feed('b'), FULL);
        due("count(7)", x.count(7), 100);
        refused(BoundaryTests::fullText, "a 101st", y -> y.feed('b'), FULL);
        LockedAtDusk y = madeBy(BoundaryTests::fullText);
        y.feed('x');
        due("the text is as it was", y.dusk(), 0);
        due("its ears", y.of(0, 6), 11);
    }

    static void promise10_badAheadOfFull() {
        says("BAD; FULL ... the first that a call's words name");
        refused(BoundaryTests::fullText, "feed(128)", y -> y.feed(128), BAD);
        refused(BoundaryTests::fullText, "feed(-1)", y -> y.feed(-1), BAD);
    }

    // ---- 11 dusk

    static void promise11_oneClauseAtLeast() {
        says("CLAUSES, 1 to 10");
        dueFault("", 0);
        dueDusk("bell 1");
        dueDusk("pace 1");
        dueDusk("keen 1 p=1");
        dueDusk("deaf 1 p=1");
        LockedAtDusk x = fresh();
        duskOf(x, "bell 3");
        due("an empty text", x.dusk(), -10);
        due("the one that held holds", x.told(1), 3);
    }

    static void promise11_tenClausesAtMost() {
        says("CLAUSES, 1 to 10");
        String nine = "bell 1;".repeat(8) + "bell 9";
        dueDusk(nine);
        dueDusk(nine + ";pace 7");
        dueFault(nine + ";pace 7;pace 8", nine.length() + 7);
        dueFault(nine + ";pace 7;", nine.length() + 7);
        dueFault(nine + ";", nine.length() + 1);
        LockedAtDusk x = fresh();
        duskOf(x, nine + ";pace 7");
        due("the ninth", x.told(1), 9);
        due("the tenth", x.told(2), 7);
        LockedAtDusk y = fresh();
        y.person(0, 0, 0);
        String keen = "keen 0 p=0;keen 2 p=0;keen 4 p=0;";
        duskOf(y, keen + "bell 1;bell 2;bell 3;bell 4;bell 5;pace 6;keen 9 p=0");
        due("ten clauses", y.count(2), 1);
        due("the tenth", y.of(0, 6), 15);
    }

    static void promise11_betweenClauses() {
        says("CLAUSES ... with ; between");
        dueDusk("bell 1;bell 2");
        dueFault("bell 1;", 7);
        dueFault(";bell 1", 0);
        dueFault("bell 1;;bell 2", 7);
        dueFault("bell 1 ;bell 2", 6);
        dueFault("bell 1; bell 2", 7);
        for (char sign = 0; sign < 128; sign++) {
            boolean isDigit = sign >= '0' && sign <= '9';
            if (sign != ';' && !isDigit) {
                due("behind bell 1: " + (int) sign, faultOf("bell 1" + sign + "bell 2"), 6);
            }
        }
    }

    static void promise11_wordsToTheLastSign() {
        says("keen n E; deaf n E; bell n; pace n ... The FAULT: the place of the first byte with which none begins so");
        for (String whole : new String[] {"keen 1 p=1", "deaf 1 p=1", "bell 1", "pace 1"}) {
            for (int cut = 0; cut < whole.length(); cut++) {
                dueFault(whole.substring(0, cut), cut);
                dueFault("bell 1;" + whole.substring(0, cut), 7 + cut);
                dueFault(whole.substring(0, cut) + "~", cut);
                dueFault(whole.substring(0, cut) + "~" + whole.substring(cut + 1), cut);
                dueFault(whole.substring(0, cut) + Character.toUpperCase(whole.charAt(cut)) + "~", upperFault(whole, cut));
            }
            dueDusk(whole);
        }
    }

    /** A sign that is its own upper case is no fault. */
    private static int upperFault(String whole, int cut) {
        char sign = whole.charAt(cut);
        return Character.toUpperCase(sign) == sign ? cut + 1 : cut;
    }

    static void promise11_firstSignOfAClause() {
        says("keen n E; deaf n E; bell n; pace n");
        for (char sign = 0; sign < 128; sign++) {
            int want = "kdbp".indexOf(sign) >= 0 ? 1 : 0;
            due("a text of " + (int) sign, faultOf("" + sign), want);
            due("behind bell 1; " + (int) sign, faultOf("bell 1;" + sign), 7 + want);
        }
    }

    static void promise11_oneBlank() {
        says("one blank ahead of each part behind the word");
        for (String word : new String[] {"keen", "deaf", "bell", "pace"}) {
            dueFault(word + "1", 4);
            dueFault(word + "  1", 5);
            dueFault(word + "\t1", 4);
            dueFault(" " + word + " 1", 0);
        }
        dueFault("bell 1 ", 6);
        dueFault("pace 1 ", 6);
        for (String word : new String[] {"keen", "deaf"}) {
            dueFault(word + " 1p=1", 6);
            dueFault(word + " 1  p=1", 7);
            dueFault(word + " 1\tp=1", 6);
            dueFault(word + " 1 p =1", 8);
            dueFault(word + " 1 p= 1", 9);
            dueFault(word + " 1 p=1 ", 10);
            dueFault(word + " 1 p=1 &p=1", 10);
            dueFault(word + " 1 p=1& p=1", 11);
            dueFault(word + " 1 p=1| p=1", 11);
            dueFault(word + " 1 ! p=1", 8);
            dueFault(word + " 1 ( p=1)", 8);
        }
    }

    static void promise11_nIs1Or2Digits() {
        says("n 1 or 2 digits");
        for (String word : new String[] {"bell ", "pace "}) {
            dueFault(word, 5);
            dueFault(word + ";", 5);
            dueFault(word + "-1", 5);
            dueFault(word + "/", 5);
            dueFault(word + ":", 5);
            dueDusk(word + "0");
            dueDusk(word + "9");
            dueDusk(word + "00");
            dueDusk(word + "09");
            dueDusk(word + "99");
            dueFault(word + "100", 7);
            dueFault(word + "000", 7);
            dueFault(word + "1/", 6);
            dueFault(word + "1:", 6);
            dueFault(word + "10x", 7);
        }
        for (String word : new String[] {"keen ", "deaf "}) {
            dueFault(word + " p=1", 5);
            dueDusk(word + "0 p=1");
            dueDusk(word + "99 p=1");
            dueFault(word + "100 p=1", 7);
            dueFault(word + "1: p=1", 6);
            dueFault(word + "1/ p=1", 6);
        }
        LockedAtDusk x = fresh();
        duskOf(x, "bell 09");
        due("09", x.told(1), 9);
        duskOf(x, "bell 00");
        due("00", x.told(1), 0);
        duskOf(x, "bell 99");
        due("99", x.told(1), 99);
        duskOf(x, "bell 10");
        due("10", x.told(1), 10);
    }

    static void promise11_letters() {
        says("a TEST: a letter ... : of a PERSON p its number, k its KIND, v its v, w its PLACE, f ... , m MINUTE modulo 10");
        for (char sign = 0; sign < 128; sign++) {
            int want = "pkvwfm(!".indexOf(sign) >= 0 ? 8 : 7;
            due("keen 1 and " + (int) sign, faultOf("keen 1 " + sign), want);
            due("deaf 1 p=1| and " + (int) sign, faultOf("deaf 1 p=1|" + sign), want + 4);
        }
        for (char letter : "pkvwfm".toCharArray()) {
            dueDusk("keen 1 " + letter + "=1");
        }
    }

    static void promise11_signsOfATest() {
        says("< or = or >");
        for (char sign = 0; sign < 128; sign++) {
            int want = "<=>".indexOf(sign) >= 0 ? 9 : 8;
            due("keen 1 m and " + (int) sign, faultOf("keen 1 m" + sign), want);
        }
        dueFault("keen 1 p==1", 9);
        dueFault("keen 1 p<>1", 9);
        dueFault("keen 1 p<=1", 9);
    }

    static void promise11_numberOfATestIs1Or2Digits() {
        says("a number (1 or 2 digits)");
        for (char sign = 0; sign < 128; sign++) {
            boolean isDigit = sign >= '0' && sign <= '9';
            due("first: " + (int) sign, faultOf("keen 1 p=" + sign), isDigit ? -10 : 9);
            boolean goesOn = sign == '|' || sign == '&' || sign == ';';
            due("second: " + (int) sign, faultOf("keen 1 p=1" + sign), isDigit ? -10 : goesOn ? 11 : 10);
            due("third: " + (int) sign, faultOf("keen 1 p=12" + sign), goesOn ? 12 : 11);
            boolean goesOnWithin = sign == '|' || sign == '&' || sign == ')' || isDigit;
            int within = goesOnWithin ? sign == ')' ? -10 : 12 : 11;
            due("within ( second: " + (int) sign, faultOf("keen 1 (p=1" + sign), within);
        }
        LockedAtDusk x = fresh();
        x.person(0, 9, 29);
        duskOf(x, "keen 1 v=9;keen 2 v=09;keen 4 w=29;keen 8 w<30;keen 16 w<99;keen 32 w>28;keen 64 w>29;deaf 99 w>99");
        due("numbers", x.of(0, 6), 63);
    }

    static void promise11_testsAtTheirEdges() {
        says("a letter, < or = or >, a number");
        for (char letter : "vw".toCharArray()) {
            LockedAtDusk y = madeBy(z -> z.person(0, 4, 4));
            duskOf(y, "keen 1 " + letter + "<3;keen 2 " + letter + "<4;keen 4 " + letter + "<5");
            due(letter + " is 4: < 3, 4, 5", y.of(0, 6), 4);
            duskOf(y, "keen 1 " + letter + "=3;keen 2 " + letter + "=4;keen 4 " + letter + "=5");
            due(letter + " is 4: = 3, 4, 5", y.of(0, 6), 2);
            duskOf(y, "keen 1 " + letter + ">3;keen 2 " + letter + ">4;keen 4 " + letter + ">5");
            due(letter + " is 4: > 3, 4, 5", y.of(0, 6), 1);
            duskOf(y, "keen 1 " + letter + "<0;keen 2 " + letter + ">99;keen 4 " + letter + "=44");
            due(letter + " is 4: < 0, > 99, = 44", y.of(0, 6), 0);
        }
    }

    private static String keenBy(char letter, int n) {
        String edges = "keen 1 L<N;keen 2 L=N;keen 4 L>N;keen 8 L<M;keen 16 L=M;keen 32 L>M";
        return edges.replace('L', letter).replace("N", "" + n).replace("M", "" + (n + 1));
    }

    static void promise11_numberAndKindAtTheirEdges() {
        says("p its number, k its KIND");
        for (int i = 0; i <= 6; i++) {
            LockedAtDusk x = fresh();
            for (int person = 0; person < 6; person++) {
                x.person(person < i ? 0 : 6, 3, 3);
            }
            if (i < 6) {
                duskOf(x, keenBy('p', i));
                due("person " + i, x.of(i, 6), 10);
                due("the last", x.of(5, 6), i == 5 ? 10 : i == 4 ? 4 + 16 : 4 + 32);
            }
            LockedAtDusk y = fresh();
            y.person(i, 3, 3);
            duskOf(y, keenBy('k', i));
            due("kind " + i, y.of(0, 6), 10);
        }
    }

    static void promise11_foundAtItsEdges() {
        says("f how many GATES it FOUND SHUT");
        LockedAtDusk x = withGates(0, 0, 0, 0, 0, 0);
        for (int gate = 0; gate < 6; gate++) {
            x.shut(gate, true);
        }
        x.person(0, 0, 0);
        duskOf(x, "keen 1 f<3;keen 2 f=3;keen 4 f>3;keen 8 f=0;keen 16 f=6;keen 32 f>6");
        int[] due = {9, 1, 1, 2, 4, 4, 20, 20};
        for (int minute = 0; minute < due.length; minute++) {
            due("found behind " + minute, x.of(0, 6), due[minute]);
            x.pass(1);
        }
    }

    static void promise11_lessThan0() {
        says("< or = or >, a number (1 or 2 digits)");
        for (char letter : "pkvwfm".toCharArray()) {
            LockedAtDusk x = fresh();
            x.person(0, 0, 0);
            duskOf(x, "keen 1 L<0;keen 2 L=0;keen 4 L>0;keen 8 L<1;keen 16 !L<0;keen 32 L<00".replace('L', letter));
            due(letter + " is 0", x.of(0, 6), 26);
        }
    }

    static void promise11_byNothing() {
        says("n 1 or 2 digits ... the n of all keen whose E holds, less those of all deaf, together");
        LockedAtDusk x = fresh();
        x.person(0, 0, 0);
        duskOf(x, "keen 0 p=0;deaf 0 p=0");
        due("0", x.of(0, 6), 0);
        duskOf(x, "deaf 00 p=0;keen 00 p=0");
        due("00", x.of(0, 6), 0);
        duskOf(x, "keen 99 p=0;deaf 98 p=0");
        due("99 less 98", x.of(0, 6), 1);
        duskOf(x, "keen 99 p>0;deaf 98 p>0");
        due("none holds", x.of(0, 6), 0);
    }

    static void promise11_minuteModulo10() {
        says("m MINUTE modulo 10");
        LockedAtDusk x = fresh();
        x.person(0, 0, 0);
        duskOf(x, "keen 1 m=0;keen 2 m=9;keen 4 m>9;keen 8 m=1");
        int[] due = {1, 8, 0, 0, 0, 0, 0, 0, 0, 2, 1, 8, 0};
        for (int minute = 0; minute < due.length; minute++) {
            due("at " + minute, x.of(0, 6), due[minute]);
            x.pass(1);
        }
    }

    static void promise11_within4Others() {
        says("A ( or ! within 4 others is none.");
        for (int mask = 0; mask < 32; mask++) {
            String begin = "";
            String end = "";
            for (int i = 0; i < 5; i++) {
                boolean isNot = (mask >> i & 1) == 1;
                begin += isNot ? "!" : "(";
                end = (isNot ? "" : ")") + end;
                if (i < 4) {
                    dueDusk("keen 1 " + begin + "p=1" + end);
                }
            }
            dueFault("keen 1 " + begin + "p=1" + end, 11);
            dueFault("bell 1;deaf 99 p=1&" + begin, 23);
        }
        dueFault("keen 1 (((((", 11);
        dueFault("keen 1 ((((", 11);
        dueFault("keen 1 !!!!", 11);
    }

    static void promise11_besideIsNotWithin() {
        says("A ( or ! within 4 others is none.");
        dueDusk("keen 1 ((((p=1))))|((((p=1))))&!!!!p=1");
        dueDusk("keen 1 !!!!p=1|!!!!p=1&((((p=1))))");
        dueDusk("keen 1 (!!!p=1&!!!p=1|(!(p=1))&!p=1)");
        dueDusk("keen 1 !!!!p=1;deaf 1 ((((p=1))));keen 1 !!!!p=1");
        dueFault("keen 1 (!!!p=1&!!!!p=1)", 18);
        dueFault("keen 1 (((p=1)|(p=1|((p=1)))))", 21);
        dueFault("keen 1 ((p=1)&(p=1|(!(p=1))))", 21);
        dueDusk("keen 1 (((p=1)|(p=1|(p=1))))");
        dueFault("keen 1 !(!(p=1|!p=1))", 15);
        dueDusk("keen 1 !(!(p=1|p=1))");
        dueDusk("keen 1 !(!!p=1|!!p=1)");
        dueFault("keen 1 !(!!p=1|!!!p=1)", 17);
    }

    static void promise11_closing() {
        says("F: !F, (E)");
        dueFault("keen 1 p=1)", 10);
        dueFault("keen 1 (p=1))", 12);
        dueFault("keen 1 (p=1", 11);
        dueFault("keen 1 (p=1;", 11);
        dueFault("keen 1 ((p=1)", 13);
        dueFault("keen 1 ((p=1);bell 1", 13);
        dueFault("keen 1 ()", 8);
        dueFault("keen 1 (p=1)p=1", 12);
        dueFault("keen 1 (p=1)(p=1)", 12);
        dueFault("keen 1 (p=1)1", 12);
        dueFault("keen 1 !p=1!p=1", 11);
        dueFault("keen 1 p=1!", 10);
        dueFault("keen 1 p=1|", 11);
        dueFault("keen 1 p=1&", 11);
        dueFault("keen 1 p=1||p=1", 11);
        dueFault("keen 1 p=1&&p=1", 11);
        dueFault("keen 1 |p=1", 7);
        dueFault("keen 1 &p=1", 7);
        dueFault("keen 1 !", 8);
    }

    static void promise11_endOfTheText() {
        says("The FAULT: ... (the end of THE TEXT, if it ends too early)");
        String whole = "keen 12 !(p=1|k<3)&v>10;deaf 3 w=4;bell 7;pace 2";
        for (int cut = 0; cut <= whole.length(); cut++) {
            boolean stands = cut == 18 || cut == 22 || cut == 23 || cut == 34 || cut == 41 || cut == 48;
            dueFault(whole.substring(0, cut), stands ? -10 : cut);
        }
    }

    static void promise11_endOfAShorterText() {
        says("(the end of THE TEXT, if it ends too early) ... THE TEXT, which is empty then");
        String whole = "keen 1 p=1&k<2|v=3";
        LockedAtDusk x = fresh();
        due("a longer one with a fault", duskOf(x, whole + "#"), -28);
        int dusks = 0;
        for (int cut = 0; cut <= whole.length(); cut++) {
            boolean stands = cut == 10 || cut == 14 || cut == 18;
            due("\"" + whole.substring(0, cut) + "\"", duskOf(x, whole.substring(0, cut)), stands ? dusks : -10 - cut);
            dusks += stands ? 1 : 0;
        }
    }

    static void promise11_faultAtEveryPlace() {
        says("The FAULT: the place of the first byte with which none begins so");
        String whole = "keen 12 !(p=1|k<3)&v>10;deaf 3 w=4;bell 7;pace 2";
        for (int place = 0; place < whole.length(); place++) {
            dueFault(whole.substring(0, place) + "#" + whole.substring(place + 1), place);
            dueFault(whole.substring(0, place) + (char) 0 + whole.substring(place + 1), place);
            dueFault(whole.substring(0, place) + (char) 127 + whole.substring(place + 1), place);
        }
        dueFault(whole + "#", 48);
        dueFault(whole + "34", 49);
    }

    static void promise11_fullText() {
        says("THE TEXT (bytes, 100 at most)");
        due("a text of 100", hundred().length(), 100);
        dueDusk(hundred());
        dueDusk(hundred().substring(0, 99));
        dueFault(hundred().substring(0, 98), 98);
        dueFault(hundred().substring(0, 99) + "x", 99);
        String[] ends = {"!!p=", "!!!p", "p=0|", "p=0&", "p=0;", "(p=0", "!!!!", "(((("};
        for (String end : ends) {
            dueFault(hundred().substring(0, 96) + end, 100);
        }
        dueFault(hundred().substring(0, 92) + "p=0;bell", 100);
        dueFault(hundred().substring(0, 92) + "p=0;keen", 100);
        dueFault(hundred().substring(0, 88) + "!!p=00;bell ", 100);
        dueFault(hundred().substring(0, 88) + "!p=00;keen 1", 100);
        dueFault(hundred().substring(0, 88) + "p=00;keen 1 ", 100);
        LockedAtDusk x = fresh();
        x.person(0, 0, 0);
        x.person(0, 0, 9);
        duskOf(x, hundred());
        due("the first test counts", x.of(0, 6), 11);
        due("the last sign counts", x.of(1, 6), 11);
        x.put(1, 0);
        due("no test", x.of(1, 6), 0);
        LockedAtDusk y = fresh();
        due("what is beyond 100 is not there", duskOf(y, hundred() + "#"), 0);
    }

    static void promise11_sixAtMost() {
        says("(6 at most) ... FULL: there are 6 (THE TEXT stays)");
        LockedAtDusk x = fresh();
        for (int dusk = 0; dusk < 6; dusk++) {
            due("dusk " + dusk, duskOf(x, "bell " + dusk), dusk);
            due("count(2)", x.count(2), dusk + 1);
        }
        due("a seventh", duskOf(x, "bell 9"), FULL);
        due("the text stays", x.count(7), 6);
        due("the newest holds", x.told(1), 5);
        refused(BoundaryTests::fullPark, "dusk()", y -> y.dusk(), FULL);
        refused(y -> {
            fullPark(y);
            feedAll(y, "ell 9;bell");
        }, "dusk() of a text with a fault", y -> y.dusk(), FULL);
    }

    static void promise11_fullAheadOfTheFault() {
        says("FULL: there are 6 (THE TEXT stays); -10 less the FAULT");
        LockedAtDusk x = madeBy(BoundaryTests::fullPark);
        due("a text that ends too early", x.dusk(), FULL);
        x.feed('#');
        due("a text with a fault", x.dusk(), FULL);
        due("the text stays", x.count(7), 2);
        LockedAtDusk y = fresh();
        for (int dusk = 0; dusk < 6; dusk++) {
            duskOf(y, "bell 1");
        }
        due("an empty text", y.dusk(), FULL);
        LockedAtDusk z = fresh();
        for (int dusk = 0; dusk < 5; dusk++) {
            duskOf(z, "bell 1");
        }
        due("five and a fault", duskOf(z, "bell #"), -15);
        due("five: the sixth", duskOf(z, "bell 1"), 5);
    }

    static void promise11_textIsEmptyThen() {
        says("THE TEXT, which is empty then, is a DUSK, and holds: its number.");
        LockedAtDusk x = fresh();
        due("a dusk", duskOf(x, "bell 1;pace 1"), 0);
        due("count(7)", x.count(7), 0);
        due("a fault", duskOf(x, "bell 1;pace 1;#"), -24);
        due("count(7)", x.count(7), 0);
        due("a shorter one behind these", duskOf(x, "bell 2"), 1);
        due("its pace", x.told(2), 3);
    }

    static void promise11_theOneThatHeldHolds() {
        says("-10 less the FAULT (the one that held holds)");
        for (String fault : new String[] {"", "#", "bell 9;pace 9;keen 9 p<9;#", "bell 9;pace 9;keen 9 p<9;"}) {
            LockedAtDusk x = fresh();
            x.person(0, 0, 0);
            due("a fault", duskOf(x, fault) <= -10 ? 1 : 0, 1);
            dueHolds(x, 8, 3, 0, 0);
            duskOf(x, "bell 4;pace 5;keen 6 p=0");
            due("a fault", duskOf(x, fault) <= -10 ? 1 : 0, 1);
            dueHolds(x, 4, 5, 6, 1);
            duskOf(x, "bell 7");
            due("a fault", duskOf(x, fault) <= -10 ? 1 : 0, 1);
            dueHolds(x, 7, 3, 0, 2);
            due("a fault", duskOf(x, fault) <= -10 ? 1 : 0, 1);
            duskOf(x, "pace 6");
            dueHolds(x, 8, 6, 0, 3);
        }
    }

    private static void dueHolds(LockedAtDusk x, int bell, int pace, int ears, int dusks) {
        due("bell", x.told(1), bell);
        due("pace", x.told(2), pace);
        due("ears", x.of(0, 6), ears);
        due("count(2)", x.count(2), dusks);
    }

    static void promise11_faultChangesNoMore() {
        says("What is answered so changes nothing");
        LockedAtDusk one = madeBy(BoundaryTests::somePark);
        due("a fault behind a dusk", duskOf(one, ";keen 9 p<9;#"), -35);
        LockedAtDusk twin = madeBy(BoundaryTests::somePark);
        due("another one", duskOf(twin, "#"), -23);
        due("it is as its twin", firstUnlike(one, twin).length(), 0);
    }

    static void promise11_newestHolds() {
        says("The newest DUSK holds (6 at most); without one there are no CLAUSES.");
        LockedAtDusk x = fresh();
        x.person(0, 0, 0);
        dueHolds(x, 8, 3, 0, 0);
        for (int dusk = 1; dusk <= 6; dusk++) {
            duskOf(x, "bell 1" + dusk + ";pace " + dusk + ";keen " + (20 + dusk) + " p=0");
            dueHolds(x, 10 + dusk, dusk, 20 + dusk, dusk);
        }
    }

    static void promise11_bellAndPaceWithout() {
        says("BELL (8 without), PACE (3 without; 1 if less, 9 if more): the last one's n.");
        LockedAtDusk x = fresh();
        x.person(0, 0, 0);
        duskOf(x, "keen 1 p=0");
        dueHolds(x, 8, 3, 1, 1);
        duskOf(x, "pace 4");
        dueHolds(x, 8, 4, 0, 2);
        duskOf(x, "bell 4");
        dueHolds(x, 4, 3, 0, 3);
        duskOf(x, "bell 9;bell 4;pace 8;pace 2;bell 0");
        dueHolds(x, 0, 2, 0, 4);
    }

    static void promise11_paceIs1To9() {
        says("PACE (3 without; 1 if less, 9 if more)");
        int[][] paces = {{0, 1}, {1, 1}, {2, 2}, {8, 8}, {9, 9}, {10, 9}, {99, 9}};
        for (int[] pace : paces) {
            LockedAtDusk x = withGates(14);
            x.round(0);
            duskOf(x, "pace " + pace[0]);
            due("pace " + pace[0], x.told(2), pace[1]);
            x.pass(1);
            due("pace " + pace[0] + ": the keeper", x.told(3), pace[1]);
        }
        LockedAtDusk x = fresh();
        duskOf(x, "pace 20;pace 0");
        due("the last one's", x.told(2), 1);
        duskOf(x, "pace 0;pace 10");
        due("the last one's", x.told(2), 9);
    }

    // ---- 12 told

    static void promise12_whats() {
        says("What 0 MINUTE ... 6 who is OUT (bits), 10 and g PLACE of GATE g. NONE.");
        LockedAtDusk x = madeBy(BoundaryTests::fullPark);
        int[] told = {1, 6, 3, 27, 0, 0, 10};
        for (int what = 0; what < told.length; what++) {
            due("told(" + what + ")", x.told(what), told[what]);
        }
        due("told(10)", x.told(10), 0);
        due("told(15)", x.told(15), 25);
        for (int what : new int[] {-1, 7, 8, 9, 16, 20, SMALL, BIG}) {
            refused(BoundaryTests::fullPark, "told(" + what + ")", y -> y.told(what), NONE);
        }
        refused(BoundaryTests::somePark, "told(13)", y -> y.told(13), NONE);
        refused(BoundaryTests::newOne, "told(10)", y -> y.told(10), NONE);
        due("told(12) of three", madeBy(BoundaryTests::somePark).told(12), 20);
    }

    static void promise12_asksAlone() {
        says("what is asked changes nothing");
        for (int asked = 0; asked <= 12; asked++) {
            int what = asked;
            changesNothing(BoundaryTests::somePark, "told(" + what + ")", y -> y.told(what));
        }
    }

    static void promise12_bits() {
        says("5 which GATES are SHUT, 6 who is OUT (bits)");
        LockedAtDusk x = fresh();
        for (int i = 0; i < 6; i++) {
            x.gate(5);
            x.person(0, 0, 5);
        }
        due("none is shut", x.told(5), 0);
        due("nobody is out", x.told(6), 0);
        x.pass(1);
        due("all are out", x.told(6), 63);
        for (int i = 0; i < 6; i++) {
            x.shut(i, true);
        }
        due("all are shut", x.told(5), 63);
        x.put(5, 5);
        due("but the last", x.told(6), 31);
        x.put(0, 5);
        due("and the first", x.told(6), 30);
        x.shut(5, false);
        due("but the last", x.told(5), 31);
    }

    // ---- 13 pass

    static void promise13_nIs0To60() {
        says("n MINUTES (0 .. 60) go: MINUTE. BAD");
        LockedAtDusk x = fresh();
        due("pass(0)", x.pass(0), 0);
        due("pass(60)", x.pass(60), 60);
        due("pass(1)", x.pass(1), 61);
        due("told(0)", x.told(0), 61);
        for (int n : new int[] {-1, 61, SMALL, BIG}) {
            refused(BoundaryTests::somePark, "pass(" + n + ")", y -> y.pass(n), BAD);
        }
        changesNothing(BoundaryTests::somePark, "pass(0)", y -> y.pass(0));
    }

    static void promise13_upTo9999() {
        says("STATE: it would be above 9999.");
        LockedAtDusk x = fresh();
        passAll(x, 9939);
        due("9939", x.told(0), 9939);
        due("pass(60)", x.pass(60), 9999);
        due("pass(0)", x.pass(0), 9999);
        LockedAtDusk y = fresh();
        passAll(y, 9940);
        due("pass(60)", y.pass(60), STATE);
        due("told(0)", y.told(0), 9940);
        due("pass(59)", y.pass(59), 9999);
        refused(BoundaryTests::lastMinute, "pass(1)", z -> z.pass(1), STATE);
        refused(BoundaryTests::lastMinute, "pass(60)", z -> z.pass(60), STATE);
    }

    static void promise13_badAheadOfState() {
        says("BAD; STATE ... the first that a call's words name");
        refused(BoundaryTests::lastMinute, "pass(61)", y -> y.pass(61), BAD);
        refused(BoundaryTests::lastMinute, "pass(-1)", y -> y.pass(-1), BAD);
    }

    static void promise13_goesByHowAllIsAhead() {
        says("A MINUTE goes, by how all is ahead of it.");
        LockedAtDusk x = withGates(3);
        x.round(0);
        x.person(0, 0, 1);
        x.person(0, 0, 6);
        x.person(0, 0, 9);
        x.pass(1);
        due("the gate is shut in that minute", x.told(5), 1);
        due("one is out all the same", x.told(6), 1);
        due("the keeper is near, but was not", x.of(2, 3), 0);
        x.pass(1);
        due("one finds it shut", x.of(1, 4), 1);
        due("now it was near", x.of(2, 3), 1);
    }

    static void promise13_upwardIfBothAreAlike() {
        says("goes toward that GATE's PLACE, the shorter way in the ring (upward, if both are alike)");
        int[][] ways = {{0, 15, 2}, {0, 14, 2}, {0, 16, 28}, {20, 5, 22}, {20, 6, 18}, {20, 4, 22}, {29, 1, 1}, {1, 29, 29}};
        for (int[] way : ways) {
            LockedAtDusk x = withGates(way[1]);
            x.person(0, 0, way[0]);
            x.call(0, true);
            x.pass(1);
            due("from " + way[0] + " toward " + way[1], x.of(0, 2), way[2]);
        }
        int[][] keepers = {{15, 3}, {14, 3}, {16, 27}, {29, 29}, {1, 1}, {27, 27}, {26, 27}};
        for (int[] keeper : keepers) {
            LockedAtDusk x = withGates(keeper[0]);
            x.round(0);
            x.pass(1);
            due("the keeper toward " + keeper[0], x.told(3), keeper[1]);
        }
    }

    static void promise13_butNoFurther() {
        says("by STEPS, but no further; if it is there then, it is OUT");
        for (int far = 0; far <= 3; far++) {
            LockedAtDusk x = withGates(10);
            x.person(0, 0, 10 - far);
            x.person(0, 0, 10 + far);
            x.call(0, true);
            x.call(1, true);
            x.pass(1);
            due("from " + far + " below", x.of(0, 2), far < 3 ? 10 : 9);
            due("from " + far + " above", x.of(1, 2), far < 3 ? 10 : 11);
            due("out", x.told(6), far < 3 ? 3 : 0);
        }
        for (int far = 2; far <= 4; far++) {
            LockedAtDusk x = withGates(far, 30 - far);
            x.round(0);
            x.pass(1);
            due("the keeper, " + far + " upward", x.told(3), Math.min(far, 3));
            due("at", x.told(4), far <= 3 ? 1 : 0);
            due("shut", x.told(5), far <= 3 ? 1 : 0);
            x.round(-1);
            x.round(1);
            x.pass(1);
            due("the keeper, " + far + " downward", x.told(3), 30 - Math.min(far, 3));
            due("at", x.told(4), far <= 3 ? 1 : 0);
        }
    }

    static void promise13_noSteps() {
        says("CHILD: 3, but 0 ... if it is there then, it is OUT");
        LockedAtDusk x = withGates(4, 29);
        x.person(2, 0, 4);
        x.person(2, 0, 5);
        x.shut(1, true);
        x.pass(1);
        due("one is there with no step", x.told(6), 1);
        due("one is not", x.of(1, 2), 5);
        due("but called", x.of(1, 3), 1);
    }

    static void promise13_withoutAGoal() {
        says("is CALLED then, and, if it has a GOAL, goes toward that GATE's PLACE");
        LockedAtDusk x = fresh();
        x.person(0, 0, 8);
        x.person(0, 0, 9);
        x.pass(1);
        due("called at 8", x.of(0, 3), 1);
        due("not called at 9", x.of(1, 3), 0);
        due("it stays", x.of(0, 2), 8);
        x.round(-1);
        x.gate(0);
        x.shut(0, true);
        x.put(0, 0);
        x.pass(1);
        due("found", x.of(0, 4), 1);
        x.put(0, 7);
        x.shut(0, false);
        x.pass(9);
        due("no goal is left: it stays", x.of(0, 2), 7);
        due("not out", x.of(0, 5), 0);
    }

    static void promise13_outStaysSo() {
        says("Each PERSON that is not OUT, and is CALLED or HEARS");
        LockedAtDusk x = withGates(3, 5);
        x.person(0, 0, 3);
        x.pass(1);
        due("out", x.told(6), 1);
        x.call(0, false);
        x.shut(0, true);
        x.pass(5);
        due("not called any more", x.of(0, 3), 0);
        due("found none", x.of(0, 4), 0);
        due("where it was", x.of(0, 2), 3);
    }

    // ---- 14 on

    static void promise14_nIs0To99() {
        says("ON n MINUTES (0 .. 99) ... BAD: n");
        LockedAtDusk x = madeBy(BoundaryTests::lastAt99);
        due("on(0, 0)", x.on(0, 0), 0);
        due("on(98, 0)", x.on(98, 0), 0);
        due("on(99, 0)", x.on(99, 0), 1);
        for (int n : new int[] {-1, 100, SMALL, BIG}) {
            refused(BoundaryTests::somePark, "on(" + n + ", 0)", y -> y.on(n, 0), BAD);
            refused(BoundaryTests::somePark, "on(" + n + ", 22)", y -> y.on(n, 22), BAD);
        }
    }

    /**
     * A lame one at 13 that hears in minute 65 alone, when the keeper, who goes to and fro, is there for the third time. It
     * finds gate 0 shut then, gate 1 (13 places off) in minute 90, and is at 26, another 4 off, in minute 98.
     */
    private static void lastAt99(LockedAtDusk x) {
        x.gate(13);
        x.gate(0);
        x.gate(26);
        x.gate(26);
        for (int turn = 0; turn < 3; turn++) {
            x.round(0);
            x.round(1);
        }
        duskOf(x, "bell 0;pace 1;deaf 99 !m=5");
        x.person(4, 0, 13);
    }

    /** Likewise, but of the two gates at 26 the first is shut. */
    private static void lastAt100(LockedAtDusk x) {
        lastAt99(x);
        x.shut(2, true);
    }

    static void promise14_behind99() {
        says("ON n MINUTES (0 .. 99): who is OUT");
        LockedAtDusk x = madeBy(BoundaryTests::lastAt100);
        due("on(99, 0)", x.on(99, 0), 0);
        due("found behind 98", x.on(98, 20), 3);
        due("found behind 99", x.on(99, 20), 7);
        due("place behind 98", x.on(98, 10), 27);
        due("place behind 99", x.on(99, 10), 26);
        x.pass(1);
        due("on(99, 0) a minute later", x.on(99, 0), 1);
    }

    static void promise14_whats() {
        says("what 0 who is OUT ... 2 THE KEEPER, 10 and p PLACE, 20 and p FOUND of PERSON p. NONE");
        LockedAtDusk x = madeBy(BoundaryTests::fullPark);
        int[] due = {10, 0, 27};
        for (int what = 0; what < due.length; what++) {
            due("on(0, " + what + ")", x.on(0, what), due[what]);
        }
        due("on(0, 15)", x.on(0, 15), 9);
        due("on(0, 25)", x.on(0, 25), 0);
        for (int what : new int[] {-1, 3, 9, 16, 19, 26, 30, SMALL, BIG}) {
            refused(BoundaryTests::fullPark, "on(1, " + what + ")", y -> y.on(1, what), NONE);
        }
        for (int what : new int[] {13, 19, 23}) {
            refused(BoundaryTests::somePark, "on(1, " + what + ")", y -> y.on(1, what), NONE);
        }
        for (int what : new int[] {10, 20}) {
            refused(BoundaryTests::newOne, "on(1, " + what + ")", y -> y.on(1, what), NONE);
        }
        due("on(0, 12) of three", madeBy(BoundaryTests::somePark).on(0, 12), 22);
        due("on(0, 22) of three", madeBy(BoundaryTests::somePark).on(0, 22), 0);
    }

    static void promise14_noneAheadOfBad() {
        says("NONE; BAD: n ... the first that a call's words name");
        refused(BoundaryTests::somePark, "on(100, 3)", y -> y.on(100, 3), NONE);
        refused(BoundaryTests::somePark, "on(-1, 13)", y -> y.on(-1, 13), NONE);
        refused(BoundaryTests::somePark, "on(-1, 12)", y -> y.on(-1, 12), BAD);
    }

    static void promise14_asksAlone() {
        says("All that follows is asked, goes on from how all is ... and changes nothing.");
        for (int asked : new int[] {0, 1, 2, 10, 12, 20, 22}) {
            int what = asked;
            changesNothing(BoundaryTests::somePark, "on(99, " + what + ")", y -> y.on(99, what));
            changesNothing(BoundaryTests::fullPark, "on(0, " + what + ")", y -> y.on(0, what));
        }
    }

    static void promise14_beyond9999() {
        says("goes on from how all is (MINUTES also beyond 9999)");
        LockedAtDusk x = madeBy(BoundaryTests::lastMinute);
        x.gate(15);
        for (int kind = 0; kind < 6; kind++) {
            x.person(kind == 3 ? 6 : kind, 0, 5);
            x.call(kind, true);
        }
        x.row(3, 3, 1);
        x.row(3, 0, 4);
        // 9999 is a multiple of 3, odd, and 3 modulo 4; 10000 is none, even, and 0 modulo 4.
        int[] behind1 = {7, 6, 5, 8, 5, 6};
        int[] behind2 = {9, 7, 8, 14, 6, 10};
        for (int person = 0; person < 6; person++) {
            due("place behind 1 of " + person, x.on(1, 10 + person), behind1[person]);
            due("place behind 2 of " + person, x.on(2, 10 + person), behind2[person]);
        }
        due("told(0)", x.told(0), 9999);
        changesNothing(BoundaryTests::lastMinute, "on(99, 0)", y -> y.on(99, 0));
    }

    /** Minute 9999, and one at a gate that hears from 10000 on. */
    private static LockedAtDusk hearsAt10000() {
        LockedAtDusk x = madeBy(BoundaryTests::lastMinute);
        x.gate(12);
        x.person(0, 4, 12);
        duskOf(x, "bell 15;deaf 99 m=9");
        return x;
    }

    static void promise14_minuteModulo10Beyond9999() {
        says("m MINUTE modulo 10 ... (MINUTES also beyond 9999)");
        LockedAtDusk x = hearsAt10000();
        due("ears at 9999", x.of(0, 6), -99);
        due("out behind 1", x.on(1, 0), 0);
        due("out behind 2", x.on(2, 0), 1);
    }

    static void promise14_goesOnFromHowAllIs() {
        says("All that follows is asked, goes on from how all is");
        for (int v : new int[] {0, 4, 9}) {
            LockedAtDusk x = withGates(12);
            x.person(0, v, 12);
            x.person(0, 5, 12);
            duskOf(x, "bell 0;keen 15 v=" + v);
            due("by its v " + v, x.on(1, 0), 1);
        }
        LockedAtDusk y = madeBy(BoundaryTests::fillAll);
        due("found already", y.on(0, 20), 7);
        due("of the last", y.on(0, 25), 7);
        due("found behind one more", y.on(1, 25), 15);
        due("called all of them", y.on(3, 20), 63);
        due("no more than all", y.on(99, 20), 63);
        due("at goes on", y.on(1, 1), 63);
    }

    // ---- 15 clear

    static void promise15_upTo99() {
        says("the fewest MINUTES (0 .. 99) behind which all are OUT (-5: not by then)");
        LockedAtDusk x = madeBy(BoundaryTests::lastAt99);
        due("99", x.clear(), 99);
        x.person(0, 0, 20);
        due("and one that never is", x.clear(), NOT_ANY);
        LockedAtDusk y = madeBy(BoundaryTests::lastAt100);
        due("100", y.clear(), NOT_ANY);
        y.pass(1);
        due("99", y.clear(), 99);
        y.pass(60);
        due("39", y.clear(), 39);
        y.pass(38);
        due("1", y.clear(), 1);
        y.pass(1);
        due("0", y.clear(), 0);
    }

    static void promise15_from0() {
        says("the fewest MINUTES (0 .. 99) behind which all are OUT");
        LockedAtDusk x = withGates(5);
        due("nobody", x.clear(), 0);
        x.person(0, 0, 5);
        due("one at a gate", x.clear(), 1);
        x.person(0, 0, 6);
        due("two", x.clear(), 1);
        x.person(1, 0, 3);
        due("three", x.clear(), 2);
        x.pass(2);
        due("all are out", x.clear(), 0);
        x.put(0, 5);
        due("one is not", x.clear(), 1);
    }

    static void promise15_beyond9999() {
        says("(MINUTES also beyond 9999)");
        due("clear()", hearsAt10000().clear(), 2);
    }

    static void promise15_asksAlone() {
        says("what is asked changes nothing");
        changesNothing(BoundaryTests::newOne, "clear()", y -> y.clear());
        changesNothing(BoundaryTests::somePark, "clear()", y -> y.clear());
        changesNothing(BoundaryTests::fullPark, "clear()", y -> y.clear());
        changesNothing(BoundaryTests::lastMinute, "clear()", y -> y.clear());
    }

    // ---- 16 stay

    static void promise16_behind99() {
        says("STAY: those, as bits, who are not OUT behind 99.");
        LockedAtDusk x = madeBy(BoundaryTests::lastAt99);
        due("out behind 99", x.stay(), 0);
        x.person(0, 0, 20);
        due("the other stays", x.stay(), 2);
        LockedAtDusk y = madeBy(BoundaryTests::lastAt100);
        due("out behind 100", y.stay(), 1);
        y.pass(1);
        due("out behind 99", y.stay(), 0);
    }

    static void promise16_bits() {
        says("STAY, as bits.");
        LockedAtDusk x = fresh();
        due("nobody", x.stay(), 0);
        for (int i = 0; i < 6; i++) {
            x.person(0, 0, i == 0 || i == 5 ? 15 : 0);
            due("no gate", x.stay(), bits(0, i));
        }
        x.gate(0);
        due("the first and the last", x.stay(), 33);
        x.call(5, true);
        due("the first", x.stay(), 1);
    }

    static void promise16_beyond9999() {
        says("(MINUTES also beyond 9999)");
        due("stay()", hearsAt10000().stay(), 0);
    }

    static void promise16_asksAlone() {
        says("what is asked changes nothing");
        changesNothing(BoundaryTests::newOne, "stay()", y -> y.stay());
        changesNothing(BoundaryTests::somePark, "stay()", y -> y.stay());
        changesNothing(BoundaryTests::fullPark, "stay()", y -> y.stay());
        changesNothing(BoundaryTests::lastMinute, "stay()", y -> y.stay());
    }

    // ---- 17 best

    static void promise17_whats() {
        says("What 0 FIRST, 1 SWAP, 2 QUICK, 3 WAIT, 4 OPEN (-5: none), 5 LEFT. NONE.");
        int[] due = {NOT_ANY, NOT_ANY, 1, 0, NOT_ANY, 0};
        for (int what = 0; what < due.length; what++) {
            due("best(" + what + ") of a new one", fresh().best(what), due[what]);
        }
        for (int what : new int[] {-1, 6, SMALL, BIG}) {
            refused(BoundaryTests::newOne, "best(" + what + ")", y -> y.best(what), NONE);
            refused(BoundaryTests::somePark, "best(" + what + ")", y -> y.best(what), NONE);
        }
    }

    static void promise17_asksAlone() {
        says("what is asked changes nothing");
        for (int asked = 0; asked <= 5; asked++) {
            int what = asked;
            changesNothing(BoundaryTests::somePark, "best(" + what + ")", y -> y.best(what));
            changesNothing(BoundaryTests::fullPark, "best(" + what + ")", y -> y.best(what));
            changesNothing(BoundaryTests::lastMinute, "best(" + what + ")", y -> y.best(what));
            changesNothing(BoundaryTests::oneStaysIn, "best(" + what + ")", y -> y.best(what));
        }
    }

    /** One that never hears, and a keeper who shuts the last gate in the next minute. */
    private static void oneStaysIn(LockedAtDusk x) {
        x.gate(9);
        x.gate(20);
        x.gate(3);
        x.person(0, 0, 20);
        x.round(2);
        x.round(0);
        x.shut(1, true);
    }

    static void promise17_leftBehind60() {
        says("LEFT is how many are not OUT behind 60 MINUTES.");
        LockedAtDusk x = madeBy(BoundaryTests::lastAt99);
        x.pass(38);
        due("out behind 61", x.best(5), 1);
        x.person(0, 0, 28);
        x.person(0, 0, 28);
        due("and two that never hear", x.best(5), 3);
        x.pass(1);
        due("out behind 60", x.best(5), 2);
        LockedAtDusk y = fresh();
        due("nobody", y.best(5), 0);
        for (int i = 1; i <= 6; i++) {
            y.person(0, 0, 0);
            due("no gate", y.best(5), i);
        }
    }

    /** Gates 0 .. 5 at places 0 .. 5 with a keeper who is a minute at each, all shut but 5; an old one goes to gate 5. */
    private static LockedAtDusk minuteAtEach(int farFrom5, int... round) {
        LockedAtDusk x = withGates(0, 1, 2, 3, 4, 5);
        duskOf(x, "pace 9");
        for (int gate = 0; gate < 5; gate++) {
            x.shut(gate, true);
        }
        x.person(1, 0, 5 + farFrom5);
        x.call(0, true);
        for (int gate : round) {
            x.round(gate);
        }
        return x;
    }

    static void promise17_firstIs0To5() {
        says("FIRST: the number of the GATE in THE ROUND (0 is the first) with which it should begin");
        // Only as the last of six is gate 5 shut in the minute in which the old one is there.
        due("0", minuteAtEach(6, 0, 1, 2, 3, 4, 5).best(0), 0);
        due("1", minuteAtEach(6, 5, 0, 1, 2, 3, 4).best(0), 1);
        due("2", minuteAtEach(6, 0, 5, 1, 2, 3, 4).best(0), 2);
        due("3", minuteAtEach(6, 0, 1, 5, 2, 3, 4).best(0), 3);
        due("4", minuteAtEach(6, 0, 1, 2, 5, 3, 4).best(0), 4);
        due("5", minuteAtEach(6, 0, 1, 2, 3, 5, 4).best(0), 5);
    }

    static void promise17_firstOfSeveral() {
        says("FIRST: ... so that LEFT is least (of several the first; -5: there is no ROUND)");
        due("a minute later by none: all are alike", minuteAtEach(7, 0, 1, 2, 3, 5, 4).best(0), 0);
        due("a minute earlier: 4 and 5", minuteAtEach(5, 0, 1, 2, 3, 5, 4).best(0), 0);
        due("a minute earlier: 3 and 4", minuteAtEach(5, 0, 1, 5, 2, 3, 4).best(0), 3);
        due("no round", minuteAtEach(6).best(0), NOT_ANY);
        due("no round and nobody", fresh().best(0), NOT_ANY);
        due("one alone", minuteAtEach(6, 5).best(0), 0);
        LockedAtDusk x = withGates(4);
        x.round(0);
        due("nobody", x.best(0), 0);
        x.round(-1);
        due("no round any more", x.best(0), NOT_ANY);
    }

    static void promise17_firstAt0() {
        says("what is ahead of that coming behind all others, AT being 0 now");
        // Behind a minute he is done with gate 0. Were he to go on, gate 5 would be shut in the next; with AT 0 it is
        // shut in the second minute from then, in which the old one is there.
        LockedAtDusk x = minuteAtEach(3, 0, 5);
        x.pass(1);
        due("at", x.told(4), 1);
        due("left as it goes on", x.best(5), 1);
        due("first", x.best(0), 0);
        LockedAtDusk y = minuteAtEach(3, 5, 0);
        y.pass(1);
        y.shut(5, false);
        due("at", y.told(4), 1);
        due("left as it goes on", y.best(5), 0);
        due("first", y.best(0), 1);
        LockedAtDusk z = minuteAtEach(4, 5, 0);
        z.pass(2);
        z.shut(5, false);
        due("done with all", z.told(4), 2);
        due("left as it goes on", z.best(5), 0);
        due("first", z.best(0), 1);
        due("at, as it was", z.told(4), 2);
    }

    static void promise17_swapIs01To45() {
        says("SWAP: the two numbers in THE ROUND ... (10 times the lesser and the greater");
        // The old one is at gate 5 in the minute of the last number, the gate is shut ahead of that.
        due("1", minuteAtEach(2, 5, 0).best(1), 1);
        due("12", minuteAtEach(3, 0, 5, 1).best(1), 12);
        due("2", minuteAtEach(3, 5, 0, 1).best(1), 2);
        due("3", minuteAtEach(4, 5, 0, 1, 2).best(1), 3);
        due("23", minuteAtEach(4, 0, 1, 5, 2).best(1), 23);
        due("34", minuteAtEach(5, 0, 1, 2, 5, 3).best(1), 34);
        due("4", minuteAtEach(5, 5, 0, 1, 2, 3).best(1), 4);
        due("5", minuteAtEach(6, 5, 0, 1, 2, 3, 4).best(1), 5);
        due("15", minuteAtEach(6, 0, 5, 1, 2, 3, 4).best(1), 15);
        due("25", minuteAtEach(6, 0, 1, 5, 2, 3, 4).best(1), 25);
        due("35", minuteAtEach(6, 0, 1, 2, 5, 3, 4).best(1), 35);
        due("45", minuteAtEach(6, 0, 1, 2, 3, 5, 4).best(1), 45);
    }

    static void promise17_swapOfSeveral() {
        says("SWAP: ... so that LEFT is least, if less than it is (... of several the first; -5: none)");
        due("gate 5 in minute 5 or 6", minuteAtEach(5, 5, 0, 1, 2, 3, 4).best(1), 4);
        due("gate 5 in minute 2 or later", minuteAtEach(2, 5, 0, 1, 2, 3, 4).best(1), 1);
        due("it is out as it is", minuteAtEach(6, 0, 1, 2, 3, 4, 5).best(1), NOT_ANY);
        due("it is in by all", minuteAtEach(7, 5, 0, 1, 2, 3, 4).best(1), NOT_ANY);
        due("one alone", minuteAtEach(3, 5).best(1), NOT_ANY);
        due("no round", minuteAtEach(3).best(1), NOT_ANY);
        due("like gates", minuteAtEach(3, 5, 5).best(1), NOT_ANY);
        LockedAtDusk x = minuteAtEach(6, 5, 0, 1, 2, 3, 4);
        x.person(1, 0, 9);
        x.call(1, true);
        // By 0 and 3 one is out, by 0 and 5 both.
        due("two are left", x.best(5), 2);
        due("the least of all", x.best(1), 5);
    }

    static void promise17_swapKeepsAt() {
        says("SWAP: the two numbers in THE ROUND whose GATES should change");
        LockedAtDusk x = minuteAtEach(5, 0, 5, 1);
        x.pass(1);
        due("at", x.told(4), 1);
        // He is done with number 0: by 0 and 1 gate 5 is not shut any more, by all else it is too early.
        due("left", x.best(5), 1);
        due("swap", x.best(1), 1);
        due("at, as it was", x.told(4), 1);
    }

    static void promise17_quickIs1To9() {
        says("QUICK: the PACE (1 .. 9) by which, were it that, LEFT is least");
        // It hears in minute 1 alone, at the place where the keeper is then: his pace tells which.
        for (int pace = 1; pace <= 9; pace++) {
            LockedAtDusk x = withGates(15, pace);
            x.round(0);
            x.person(0, 0, pace);
            duskOf(x, "bell 0;deaf 99 !m=1");
            due("pace " + pace, x.best(2), pace);
            due("left by 3", x.best(5), pace == 3 ? 0 : 1);
            due("the pace is as it was", x.told(2), 3);
        }
        LockedAtDusk ten = withGates(15, 10);
        ten.round(0);
        ten.person(0, 0, 10);
        duskOf(ten, "bell 0;deaf 99 !m=1");
        due("10 by none", ten.best(2), 1);
        LockedAtDusk none = withGates(15, 0);
        none.round(0);
        none.person(0, 0, 0);
        duskOf(none, "bell 0;deaf 99 !m=1");
        due("0 by none", none.best(2), 1);
    }

    static void promise17_quickOfSeveral() {
        says("QUICK: ... LEFT is least (of several the least)");
        // In minute 2 the keeper is at twice his pace.
        LockedAtDusk x = withGates(15, 6);
        x.round(0);
        x.person(0, 0, 6);
        duskOf(x, "pace 9;bell 3;deaf 99 !m=2");
        due("within 3 of 6 in minute 2: by 2, 3, 4", x.best(2), 2);
        x.person(0, 0, 6);
        duskOf(x, "pace 9;bell 3;deaf 99 !m=2&p=0|!m=1&p=1");
        due("the other in minute 1, by 3 .. 9: both by 3, 4", x.best(2), 3);
        due("left by 9", x.best(5), 1);
        due("nobody", fresh().best(2), 1);
        LockedAtDusk y = fresh();
        for (int i = 0; i < 6; i++) {
            y.person(0, 0, 0);
        }
        due("six are in by all", y.best(2), 1);
    }

    static void promise17_waitIs0To15() {
        says("WAIT: how many MINUTES (0 .. 15) THE KEEPER should stay where he is first, so that LEFT is least (... the fewest)");
        // The gate is shut in minute wait + 1; an old one so far off is there in that of its way.
        for (int far = 0; far <= 15; far++) {
            LockedAtDusk x = withGates(0);
            x.person(1, 0, far);
            x.round(0);
            x.call(0, true);
            due("an old one " + far + " off", x.best(3), Math.max(0, far - 1));
        }
        int[] waits = {14, 15, 0};
        for (int minute = 0; minute < waits.length; minute++) {
            LockedAtDusk x = withGates(0);
            x.person(1, 0, 15);
            x.round(0);
            duskOf(x, "bell 0;keen 15 m=" + minute);
            due("one 15 off that hears in minute " + minute, x.best(3), waits[minute]);
            due("left", x.best(5), 1);
        }
    }

    static void promise17_waitOfSeveral() {
        says("WAIT: ... so that LEFT is least (of several the fewest)");
        due("nobody", fresh().best(3), 0);
        LockedAtDusk x = withGates(0);
        x.person(1, 0, 5);
        x.round(0);
        x.call(0, true);
        due("4 or more", x.best(3), 4);
        x.person(1, 0, 23);
        x.call(1, true);
        due("one by 4, both by 6", x.best(3), 6);
        x.round(-1);
        due("no round: all are alike", x.best(3), 0);
        LockedAtDusk y = fresh();
        for (int i = 0; i < 6; i++) {
            y.person(0, 0, 0);
        }
        due("six are in by all", y.best(3), 0);
    }

    static void promise17_openIs0To5() {
        says("OPEN: the GATE that should not be SHUT now, nor by THE KEEPER ... (of several the first; -5: none)");
        LockedAtDusk x = withGates(3, 3, 3, 3, 3, 3);
        for (int gate = 0; gate < 6; gate++) {
            x.shut(gate, true);
        }
        x.person(0, 0, 3);
        for (int gate = 0; gate < 6; gate++) {
            due("it has found those ahead of " + gate, x.best(4), gate);
            x.pass(1);
        }
        due("it has found all", x.best(4), NOT_ANY);
        due("left", x.best(5), 1);
        due("all are shut", x.told(5), 63);
        due("no gate", fresh().best(4), NOT_ANY);
    }

    static void promise17_openIfLess() {
        says("OPEN: ... so that LEFT is least, if less than it is");
        LockedAtDusk x = withGates(5, 9);
        x.shut(1, true);
        x.round(0);
        x.person(1, 0, 7);
        due("out as it is", x.best(5), 0);
        due("none", x.best(4), NOT_ANY);
        x.put(0, 8);
        due("left", x.best(5), 1);
        due("gate 0 or 1", x.best(4), 0);
        x.shut(1, false);
        due("out as it is", x.best(4), NOT_ANY);
    }

    static void promise17_openTheLeastOfAll() {
        says("OPEN: ... so that LEFT is least");
        LockedAtDusk x = withGates(3, 3);
        x.shut(0, true);
        x.shut(1, true);
        x.person(0, 0, 3);
        x.pass(1);
        x.person(0, 0, 3);
        due("one has found gate 0", x.of(0, 4), 1);
        due("two are left", x.best(5), 2);
        due("gate 0 is good for one, gate 1 for both", x.best(4), 1);
    }

    static void promise17_openHeComesBy() {
        says("nor by THE KEEPER (he comes by all the same)");
        LockedAtDusk x = withGates(3, 12);
        duskOf(x, "pace 6");
        x.person(1, 0, 3);
        x.shut(0, true);
        x.pass(1);
        x.shut(0, false);
        x.put(0, 15);
        x.person(1, 0, 5);
        x.call(1, true);
        x.round(0);
        x.round(1);
        // By 3 he is at 12 in the third minute, when the first one is there; were he to leave 3 out, in the second.
        due("left", x.best(5), 1);
        due("gate 0, which he comes by", x.best(4), 0);
    }

    static void promise17_beyond9999() {
        says("(MINUTES also beyond 9999)");
        LockedAtDusk x = hearsAt10000();
        x.round(0);
        due("left", x.best(5), 0);
        due("first", x.best(0), 0);
        due("quick", x.best(2), 1);
        due("wait", x.best(3), 0);
        due("told(0)", x.told(0), 9999);
    }

    // ---- 18 hides

    static void promise18_behind30() {
        says("it is not OUT behind 30 MINUTES");
        LockedAtDusk x = withGates(0, 0);
        x.person(4, 0, 9);
        x.call(0, true);
        x.pass(1);
        // Steps in minutes 2, 4 .. 30: fifteen of them, the last in the thirtieth minute from now.
        due("30 minutes are enough from 15", x.hides(0), 0);
        x.shut(0, true);
        due("31 are too many: the second gate", x.hides(0), 1 << 15);
        x.pass(1);
        due("a minute less by an even one", x.hides(0), 0);
    }

    static void promise18_placesAre0To29() {
        says("HIDES of one: those PLACES, as bits, by which, were it there now (not OUT), it is not OUT");
        LockedAtDusk x = withGates(15);
        x.person(0, 0, 3);
        duskOf(x, "bell 15");
        due("the bell is heard everywhere", x.hides(0), 0);
        duskOf(x, "bell 15;deaf 99 w=0");
        due("0", x.hides(0), 1);
        duskOf(x, "bell 15;deaf 99 w=29");
        due("29", x.hides(0), 1 << 29);
        duskOf(x, "bell 15;deaf 99 w=0|w=29");
        due("0 and 29", x.hides(0), 1 << 29 | 1);
        duskOf(x, "bell 0;deaf 99 w<99");
        due("everywhere", x.hides(0), ALL_PLACES);
        due("where it was", x.of(0, 2), 3);
    }

    static void promise18_wereItNotOut() {
        says("were it there now (not OUT)");
        LockedAtDusk x = withGates(0);
        x.person(0, 0, 0);
        x.pass(1);
        x.call(0, false);
        due("out", x.of(0, 5), 1);
        due("where the bell is not heard", x.hides(0), bits(9, 21));
        due("out still", x.of(0, 5), 1);
    }

    static void promise18_people() {
        says("HIDES, as bits. NONE.");
        LockedAtDusk x = fresh();
        for (int i = 0; i < 6; i++) {
            x.person(0, 0, 0);
            due("no gate", x.hides(i), ALL_PLACES);
        }
        for (int person : new int[] {-1, 6, SMALL, BIG}) {
            refused(BoundaryTests::fullPark, "hides(" + person + ")", y -> y.hides(person), NONE);
        }
        refused(BoundaryTests::newOne, "hides(0)", y -> y.hides(0), NONE);
        refused(BoundaryTests::somePark, "hides(3)", y -> y.hides(3), NONE);
    }

    static void promise18_asksAlone() {
        says("what is asked changes nothing");
        for (int asked = 0; asked < 3; asked++) {
            int person = asked;
            changesNothing(BoundaryTests::somePark, "hides(" + person + ")", y -> y.hides(person));
        }
        changesNothing(BoundaryTests::fullPark, "hides(5)", y -> y.hides(5));
        due("beyond 9999", hearsAt10000().hides(0), 0);
    }

    // ---- 19 see

    static void promise19_nIs0To20() {
        says("whether it is OUT behind n MINUTES (0 .. 20) ... BAD: n");
        LockedAtDusk x = madeBy(BoundaryTests::somePark);
        due("see(0, true, 0)", x.see(0, true, 0), 3);
        due("see(0, true, 20)", x.see(0, true, 20), 4);
        for (int n : new int[] {-1, 21, SMALL, BIG}) {
            refused(BoundaryTests::somePark, "see(0, true, " + n + ")", y -> y.see(0, true, n), BAD);
        }
    }

    static void promise19_fiveAtMost() {
        says("(5 at most) ... how many there are ... FULL: 5");
        LockedAtDusk x = fresh();
        x.person(0, 0, 0);
        for (int i = 1; i <= 5; i++) {
            due("see", x.see(0, false, 20), i);
            due("count(4)", x.count(4), i);
        }
        due("a sixth", x.see(0, false, 20), FULL);
        refused(BoundaryTests::fullPark, "a sixth", y -> y.see(0, false, 20), FULL);
        refused(BoundaryTests::fullPark, "a sixth", y -> y.see(5, true, 0), FULL);
    }

    static void promise19_people() {
        says("NONE");
        LockedAtDusk x = madeBy(BoundaryTests::somePark);
        due("see(2, true, 3)", x.see(2, true, 3), 3);
        for (int person : new int[] {-2, 3, SMALL, BIG}) {
            refused(BoundaryTests::somePark, "see(" + person + ", true, 3)", y -> y.see(person, true, 3), NONE);
        }
        refused(BoundaryTests::newOne, "see(0, true, 3)", y -> y.see(0, true, 3), NONE);
    }

    static void promise19_orderOfRefusals() {
        says("NONE; BAD: n; FULL: 5 ... the first that a call's words name");
        refused(BoundaryTests::fullPark, "see(6, true, 21)", y -> y.see(6, true, 21), NONE);
        refused(BoundaryTests::fullPark, "see(-2, true, 0)", y -> y.see(-2, true, 0), NONE);
        refused(BoundaryTests::fullPark, "see(0, true, 21)", y -> y.see(0, true, 21), BAD);
        refused(BoundaryTests::fullPark, "see(0, true, -1)", y -> y.see(0, true, -1), BAD);
        refused(BoundaryTests::somePark, "see(3, true, 21)", y -> y.see(3, true, 21), NONE);
    }

    static void promise19_noneThen() {
        says("(person -1: none then, 0, whatever the others are)");
        for (int n : new int[] {-1, 0, 20, 21, SMALL, BIG}) {
            for (boolean isOut : new boolean[] {true, false}) {
                LockedAtDusk x = madeBy(BoundaryTests::fullPark);
                due("see(-1, " + isOut + ", " + n + ")", x.see(-1, isOut, n), 0);
                due("count(4)", x.count(4), 0);
                due("all that is seen is so", x.where(0, 0), 30);
                due("the first then", x.see(0, true, 1), 1);
            }
        }
        due("none there already", fresh().see(-1, true, 0), 0);
    }

    // ---- 20 where

    static void promise20_whats() {
        says("what 0 how many, 1 the least; -5. NONE.");
        LockedAtDusk x = fresh();
        for (int i = 0; i < 6; i++) {
            x.person(0, 0, 7);
            due("nothing seen: how many", x.where(i, 0), 30);
            due("nothing seen: the least", x.where(i, 1), 0);
        }
        for (int what : new int[] {-1, 2, SMALL, BIG}) {
            refused(BoundaryTests::fullPark, "where(0, " + what + ")", y -> y.where(0, what), NONE);
        }
        for (int person : new int[] {-1, 6, SMALL, BIG}) {
            refused(BoundaryTests::fullPark, "where(" + person + ", 0)", y -> y.where(person, 0), NONE);
            refused(BoundaryTests::fullPark, "where(" + person + ", 1)", y -> y.where(person, 1), NONE);
        }
        refused(BoundaryTests::newOne, "where(0, 0)", y -> y.where(0, 0), NONE);
        refused(BoundaryTests::somePark, "where(3, 1)", y -> y.where(3, 1), NONE);
    }

    static void promise20_seenBehind0To20() {
        says("whether it is OUT behind n MINUTES (0 .. 20)");
        LockedAtDusk x = withGates(10);
        x.pass(1);
        x.person(4, 0, 9);
        x.call(0, true);
        // Steps in minutes 2, 4 .. 20: from n off it is out behind 2n; at 10 behind 1.
        x.see(0, true, 20);
        due("not more than 10 off", x.where(0, 0), 21);
        due("the least", x.where(0, 1), 0);
        x.see(0, false, 19);
        due("10 off", x.where(0, 0), 2);
        due("the least", x.where(0, 1), 0);
        x.see(-1, true, 0);
        x.see(0, false, 20);
        due("more than 10 off", x.where(0, 0), 9);
        due("the least", x.where(0, 1), 21);
        x.see(-1, true, 0);
        x.see(0, true, 1);
        due("there", x.where(0, 0), 1);
        due("the least", x.where(0, 1), 10);
        x.see(0, false, 0);
        due("there, and not out now", x.where(0, 0), 1);
        x.see(0, true, 0);
        due("were it there now, it would not be out", x.where(0, 0), 0);
        due("none", x.where(0, 1), NOT_ANY);
    }

    static void promise20_theLeast() {
        says("how many PLACES there are by which ... all of SEEN is so; the least (-5: none)");
        LockedAtDusk x = withGates(15);
        x.person(0, 0, 3);
        x.see(0, false, 20);
        duskOf(x, "bell 15;deaf 99 w=29");
        due("29: how many", x.where(0, 0), 1);
        due("29", x.where(0, 1), 29);
        duskOf(x, "bell 15;deaf 99 w=0|w=29");
        due("0 and 29: how many", x.where(0, 0), 2);
        due("0 and 29: the least", x.where(0, 1), 0);
        duskOf(x, "bell 15");
        due("none: how many", x.where(0, 0), 0);
        due("none", x.where(0, 1), NOT_ANY);
        duskOf(x, "deaf 99 w<99");
        due("all: how many", x.where(0, 0), 30);
        due("all: the least", x.where(0, 1), 0);
        due("where it was", x.of(0, 2), 3);
    }

    static void promise20_allOfSeen() {
        says("all of SEEN is so");
        LockedAtDusk x = withGates(10);
        x.person(0, 0, 10);
        x.person(0, 0, 10);
        x.call(0, true);
        x.call(1, true);
        for (int i = 0; i < 4; i++) {
            x.see(0, true, 1);
        }
        due("four of one", x.where(0, 0), 5);
        x.image();
        x.see(1, true, 1);
        due("the fifth is so", x.where(0, 0), 5);
        x.undo();
        x.see(1, false, 1);
        due("the fifth is not so", x.where(0, 0), 0);
        due("by the other's place", x.where(1, 0), 25);
        due("the least", x.where(1, 1), 0);
    }

    static void promise20_asksAlone() {
        says("what is asked changes nothing");
        for (int asked = 0; asked < 3; asked++) {
            int person = asked;
            changesNothing(BoundaryTests::somePark, "where(" + person + ", 0)", y -> y.where(person, 0));
            changesNothing(BoundaryTests::fullPark, "where(" + person + ", 1)", y -> y.where(person, 1));
        }
        LockedAtDusk x = hearsAt10000();
        x.see(0, true, 2);
        due("beyond 9999", x.where(0, 0), 5);
        due("told(0)", x.told(0), 9999);
    }

    // ---- 21 can

    static void promise21_whats() {
        says("what 0 how many, 1 the least; -5. NONE.");
        LockedAtDusk x = fresh();
        for (int i = 0; i < 6; i++) {
            x.person(0, 7, 7);
            due("nothing seen: how many", x.can(i, 0), 10);
            due("nothing seen: the least", x.can(i, 1), 0);
        }
        for (int what : new int[] {-1, 2, SMALL, BIG}) {
            refused(BoundaryTests::fullPark, "can(0, " + what + ")", y -> y.can(0, what), NONE);
        }
        for (int person : new int[] {-1, 6, SMALL, BIG}) {
            refused(BoundaryTests::fullPark, "can(" + person + ", 0)", y -> y.can(person, 0), NONE);
            refused(BoundaryTests::fullPark, "can(" + person + ", 1)", y -> y.can(person, 1), NONE);
        }
        refused(BoundaryTests::newOne, "can(0, 0)", y -> y.can(0, 0), NONE);
        refused(BoundaryTests::somePark, "can(3, 1)", y -> y.can(3, 1), NONE);
    }

    static void promise21_numbersAre0To9() {
        says("how many numbers v (0 .. 9) there are by which, were that its v now, all of SEEN is so; the least (-5: none)");
        String[] tests = {"v=0", "v=9", "v<10", "v>0", "v<9", "v>9", "v=10", "v=0|v=9", "v<0"};
        int[] many = {1, 1, 10, 9, 9, 0, 0, 2, 0};
        int[] least = {0, 9, 0, 1, 0, NOT_ANY, NOT_ANY, 0, NOT_ANY};
        for (int i = 0; i < tests.length; i++) {
            LockedAtDusk y = withGates(15);
            y.person(0, 4, 15);
            y.see(0, true, 1);
            duskOf(y, "bell 0;keen 15 " + tests[i]);
            due("how many of " + tests[i], y.can(0, 0), many[i]);
            due("the least of " + tests[i], y.can(0, 1), least[i]);
            due("its v", y.of(0, 1), 4);
        }
    }

    static void promise21_seenBehind0To20() {
        says("whether it is OUT behind n MINUTES (0 .. 20)");
        LockedAtDusk x = withGates(0);
        x.pass(1);
        x.person(4, 0, 10);
        x.see(0, true, 20);
        duskOf(x, "bell 0;keen 10 v=9&m=1|v=8&m=2");
        // By 9 it hears in minute 1 and is there in minute 20; by 8 it hears in minute 2, which is as good.
        due("8 and 9", x.can(0, 0), 2);
        due("the least", x.can(0, 1), 8);
        duskOf(x, "bell 0;keen 10 v=9&m=2|v=8&m=3");
        due("in minute 3 it is too late", x.can(0, 0), 1);
        due("the least", x.can(0, 1), 9);
        x.see(-1, true, 0);
        x.see(0, false, 0);
        due("behind 0", x.can(0, 0), 10);
        x.see(0, true, 0);
        due("behind 0, out", x.can(0, 0), 0);
    }

    static void promise21_asksAlone() {
        says("what is asked changes nothing");
        for (int asked = 0; asked < 3; asked++) {
            int person = asked;
            changesNothing(BoundaryTests::somePark, "can(" + person + ", 0)", y -> y.can(person, 0));
            changesNothing(BoundaryTests::fullPark, "can(" + person + ", 1)", y -> y.can(person, 1));
        }
        LockedAtDusk x = hearsAt10000();
        x.see(0, true, 2);
        x.see(0, false, 1);
        due("beyond 9999", x.can(0, 0), 10);
        due("told(0)", x.told(0), 9999);
    }

    // ---- 22 odds

    static void promise22_nIs0To99() {
        says("ODDS of n MINUTES (0 .. 99) ... NO.");
        LockedAtDusk x = madeBy(BoundaryTests::lastAt100);
        x.person(0, 0, 13);
        x.call(1, true);
        x.pass(1);
        due("the other is out", x.told(6), 2);
        // Called now, the lame one is out at once; else behind 99.
        due("behind 0: 0", x.odds(0, 0), 0);
        due("behind 0: 0 of 1", x.odds(0, 1), 1);
        due("behind 1: 1", x.odds(1, 0), 1);
        due("behind 1: 1 of 2", x.odds(1, 1), 2);
        due("behind 98: 1", x.odds(98, 0), 1);
        due("behind 98: 1 of 2", x.odds(98, 1), 2);
        due("behind 99: 1", x.odds(99, 0), 1);
        due("behind 99: 1 of 1", x.odds(99, 1), 1);
        for (int n : new int[] {-1, 100, SMALL, BIG}) {
            refused(BoundaryTests::somePark, "odds(" + n + ", 0)", y -> y.odds(n, 0), NO);
            refused(BoundaryTests::somePark, "odds(" + n + ", 1)", y -> y.odds(n, 1), NO);
        }
    }

    static void promise22_parts() {
        says("part 0 above, 1 below the line. NO.");
        LockedAtDusk x = withGates(0);
        x.person(0, 0, 0);
        due("above", x.odds(5, 0), 1);
        due("below", x.odds(5, 1), 1);
        for (int part : new int[] {-1, 2, SMALL, BIG}) {
            refused(BoundaryTests::somePark, "odds(5, " + part + ")", y -> y.odds(5, part), NO);
        }
    }

    static void promise22_nobodyIsThere() {
        says("(NO: nobody is there)");
        refused(BoundaryTests::newOne, "odds(5, 0)", y -> y.odds(5, 0), NO);
        refused(BoundaryTests::newOne, "odds(5, 1)", y -> y.odds(5, 1), NO);
        refused(y -> y.gate(3), "odds(0, 1)", y -> y.odds(0, 1), NO);
    }

    static void promise22_lowestTerms() {
        says("if one of all, each alike likely, is CALLED now: how likely all are OUT behind n: a fraction in lowest terms");
        for (int people = 1; people <= 6; people++) {
            for (int bad = 0; bad <= people; bad++) {
                dueOdds(people, bad);
            }
        }
    }

    /**
     * All are at gate 0 and hear in minute 1, when it is farthest from the keeper: so all are out behind 2. But a told one
     * that is called now goes eleven places toward gate 1 first, which is farthest now, and is not back by then.
     */
    private static void dueOdds(int people, int bad) {
        LockedAtDusk x = withGates(7, 22);
        x.round(1);
        duskOf(x, "bell 0;keen 15 m=1");
        for (int i = 0; i < people; i++) {
            x.person(i < bad ? 6 : 0, 0, 7);
            x.row(i, 0, 9);
        }
        int good = people - bad;
        int common = commonOf(good, people);
        due(good + " of " + people + ": above", x.odds(2, 0), good / common);
        due(good + " of " + people + ": below", x.odds(2, 1), people / common);
        due("nobody is called by that", x.of(0, 3), 0);
    }

    private static int commonOf(int above, int below) {
        int common = 1;
        for (int d = 1; d <= below; d++) {
            common = above % d == 0 && below % d == 0 ? d : common;
        }
        return common;
    }

    static void promise22_oneOfAll() {
        says("if one of all, each alike likely, is CALLED now");
        LockedAtDusk x = withGates(15);
        for (int i = 0; i < 6; i++) {
            x.person(0, 0, 15);
        }
        due("six are needed", x.odds(9, 0), 0);
        for (int i = 0; i < 4; i++) {
            x.call(i, true);
        }
        due("two are needed", x.odds(9, 0), 0);
        x.call(4, true);
        due("the last is needed: 1", x.odds(9, 0), 1);
        due("the last is needed: of 6", x.odds(9, 1), 6);
        x.call(0, false);
        x.call(5, true);
        due("the first is needed: 1", x.odds(9, 0), 1);
        due("the first is needed: of 6", x.odds(9, 1), 6);
        x.pass(1);
        due("five are out", x.told(6), 62);
        due("of all, the out as well", x.odds(9, 1), 6);
        x.call(0, true);
        due("none is needed", x.odds(9, 1), 1);
    }

    static void promise22_asksAlone() {
        says("what is asked changes nothing");
        changesNothing(BoundaryTests::somePark, "odds(99, 0)", y -> y.odds(99, 0));
        changesNothing(BoundaryTests::fullPark, "odds(0, 1)", y -> y.odds(0, 1));
        LockedAtDusk x = hearsAt10000();
        due("beyond 9999, called", x.odds(1, 0), 1);
        x.person(0, 0, 12);
        x.person(0, 0, 12);
        due("beyond 9999, heard in 10000", x.odds(2, 1), 1);
        due("told(0)", x.told(0), 9999);
    }

    // ---- 23 mean

    static void promise23_nIs1To60() {
        says("MEAN of n MINUTES (1 .. 60) ... NO: n, part.");
        LockedAtDusk x = madeBy(BoundaryTests::lastAt99);
        x.pass(38);
        due("out behind 61: 60", x.mean(60, 0), 0);
        due("out behind 61: 60", x.mean(60, 1), 1);
        x.pass(1);
        due("out behind 60: 59", x.mean(59, 0), 0);
        due("out behind 60: 59", x.mean(59, 1), 1);
        due("out behind 60: 60", x.mean(60, 0), 1);
        due("out behind 60: 60", x.mean(60, 1), 60);
        x.pass(59);
        due("out behind 1: 1", x.mean(1, 0), 1);
        due("out behind 1: 1", x.mean(1, 1), 1);
        for (int n : new int[] {-1, 0, 61, SMALL, BIG}) {
            refused(BoundaryTests::somePark, "mean(" + n + ", 0)", y -> y.mean(n, 0), NO);
            refused(BoundaryTests::somePark, "mean(" + n + ", 1)", y -> y.mean(n, 1), NO);
        }
    }

    static void promise23_parts() {
        says("part likewise. NO: n, part.");
        for (int part : new int[] {-1, 2, SMALL, BIG}) {
            refused(BoundaryTests::somePark, "mean(5, " + part + ")", y -> y.mean(5, part), NO);
            refused(BoundaryTests::newOne, "mean(5, " + part + ")", y -> y.mean(5, part), NO);
        }
        due("nobody: above", fresh().mean(60, 0), 0);
        due("nobody: below", fresh().mean(60, 1), 1);
    }

    static void promise23_lowestTerms() {
        says("how many are OUT behind 1, 2 .. n, together, by n: a fraction in lowest terms");
        LockedAtDusk x = withGates(0);
        x.person(1, 0, 7);
        x.person(1, 0, 25);
        // Out behind 7 and 5.
        for (int n = 1; n <= 60; n++) {
            int together = Math.max(0, n - 6) + Math.max(0, n - 4);
            int common = commonOf(together, n);
            due("mean(" + n + ", 0)", x.mean(n, 0), together / common);
            due("mean(" + n + ", 1)", x.mean(n, 1), n / common);
        }
        LockedAtDusk y = withGates(0);
        for (int i = 0; i < 6; i++) {
            y.person(0, 0, 0);
        }
        due("six at once: above", y.mean(60, 0), 6);
        due("six at once: below", y.mean(60, 1), 1);
        y.pass(1);
        due("six already: above", y.mean(1, 0), 6);
    }

    static void promise23_asksAlone() {
        says("what is asked changes nothing");
        changesNothing(BoundaryTests::somePark, "mean(60, 0)", y -> y.mean(60, 0));
        changesNothing(BoundaryTests::fullPark, "mean(1, 1)", y -> y.mean(1, 1));
        LockedAtDusk x = hearsAt10000();
        due("beyond 9999", x.mean(2, 0), 1);
        due("beyond 9999", x.mean(2, 1), 2);
        due("told(0)", x.told(0), 9999);
    }

    // ---- 24 evening

    static void promise24_whats() {
        says("what goes (0 a MINUTE, 1 ... , 2 ... , 3 a PERSON is CALLED ... NONE: what (0 .. 3)");
        LockedAtDusk x = madeBy(BoundaryTests::somePark);
        due("evening(0, 0)", x.evening(0, 0), 5);
        due("evening(3, 0)", x.evening(3, 0), 6);
        for (int what : new int[] {-2, 4, SMALL, BIG}) {
            refused(BoundaryTests::somePark, "evening(" + what + ", 0)", y -> y.evening(what, 0), NONE);
        }
    }

    static void promise24_numbers() {
        says("NONE: ... a GATE (by 1, 2), a PERSON (by 3)");
        Calls twoGates = y -> {
            y.gate(3);
            y.gate(3);
            y.person(0, 0, 0);
        };
        LockedAtDusk x = madeBy(twoGates);
        due("gate 1 by 1", x.evening(1, 1), 1);
        due("gate 1 by 2", x.evening(2, 1), 2);
        due("person 0 by 3", x.evening(3, 0), 3);
        for (int gate : new int[] {-1, 2, SMALL, BIG}) {
            refused(twoGates, "evening(1, " + gate + ")", y -> y.evening(1, gate), NONE);
            refused(twoGates, "evening(2, " + gate + ")", y -> y.evening(2, gate), NONE);
        }
        for (int person : new int[] {-1, 1, SMALL, BIG}) {
            refused(twoGates, "evening(3, " + person + ")", y -> y.evening(3, person), NONE);
        }
        for (int what = 1; what <= 3; what++) {
            int row = what;
            refused(BoundaryTests::newOne, "evening(" + what + ", 0)", y -> y.evening(row, 0), NONE);
        }
        int[] any = {-1, 2, 99, SMALL, BIG};
        for (int i = 0; i < any.length; i++) {
            due("a minute, whatever the number is", x.evening(0, any[i]), 4 + i);
        }
        due("a minute of a new one", fresh().evening(0, 0), 1);
    }

    static void promise24_tenAtMost() {
        says("(... 10 rows at most) ... FULL: 10");
        LockedAtDusk x = withGates(3);
        for (int i = 1; i <= 10; i++) {
            due("evening(1, 0)", x.evening(1, 0), i);
            due("count(5)", x.count(5), i);
        }
        due("an eleventh", x.evening(1, 0), FULL);
        for (int what = 0; what <= 3; what++) {
            int row = what;
            refused(BoundaryTests::fullPark, "an eleventh of " + what, y -> y.evening(row, 0), FULL);
        }
    }

    static void promise24_noneAheadOfFull() {
        says("NONE: what (0 .. 3), a GATE (by 1, 2), a PERSON (by 3); FULL: 10 ... the first that a call's words name");
        refused(BoundaryTests::fullPark, "evening(4, 0)", y -> y.evening(4, 0), NONE);
        refused(BoundaryTests::fullPark, "evening(-2, 0)", y -> y.evening(-2, 0), NONE);
        refused(BoundaryTests::fullPark, "evening(1, 6)", y -> y.evening(1, 6), NONE);
        refused(BoundaryTests::fullPark, "evening(2, -1)", y -> y.evening(2, -1), NONE);
        refused(BoundaryTests::fullPark, "evening(3, 6)", y -> y.evening(3, 6), NONE);
    }

    static void promise24_emptyThen() {
        says("(what -1: it is empty then, 0, whatever the other is)");
        for (int number : new int[] {-1, 0, 6, SMALL, BIG}) {
            LockedAtDusk x = madeBy(BoundaryTests::fullPark);
            due("evening(-1, " + number + ")", x.evening(-1, number), 0);
            due("count(5)", x.count(5), 0);
            due("nothing goes", x.gone(1), 0);
            due("the first then", x.evening(2, 3), 1);
            due("it alone goes", x.gone(1), 8);
        }
        due("none there already", fresh().evening(-1, 0), 0);
    }

    // ---- 25 gone

    static void promise25_whats() {
        says("GONE: what 0 who is OUT, 1 which GATES are SHUT. NONE.");
        due("nobody", fresh().gone(0), 0);
        due("no gate", fresh().gone(1), 0);
        for (int what : new int[] {-1, 2, 3, SMALL, BIG}) {
            refused(BoundaryTests::newOne, "gone(" + what + ")", y -> y.gone(what), NONE);
            refused(BoundaryTests::fullPark, "gone(" + what + ")", y -> y.gone(what), NONE);
        }
    }

    static void promise25_allRowsGo() {
        says("AN EVENING told by hand: what goes (... 10 rows at most)");
        LockedAtDusk x = withGates(8);
        x.person(1, 0, 18);
        x.call(0, true);
        for (int i = 1; i <= 10; i++) {
            x.evening(0, 0);
            due("an old one ten places off, behind " + i, x.gone(0), i == 10 ? 1 : 0);
        }
        LockedAtDusk y = withGates(1, 2, 3, 4, 5, 6);
        for (int gate = 0; gate < 6; gate++) {
            due("ahead of gate " + gate, y.gone(1), bits(0, gate - 1));
            y.evening(2, gate);
            due("gate " + gate, y.gone(1), bits(0, gate));
        }
        for (int gate = 0; gate < 4; gate++) {
            y.evening(1, gate);
            due("not gate " + gate, y.gone(1), bits(gate + 1, 5));
        }
        due("none is shut now", y.told(5), 0);
    }

    static void promise25_rowByRow() {
        says("3 a PERSON is CALLED");
        LockedAtDusk x = withGates(5);
        for (int i = 0; i < 6; i++) {
            x.person(0, 0, i == 0 || i == 5 ? 5 : 20);
        }
        duskOf(x, "bell 0");
        x.evening(3, 5);
        due("called, and no minute behind that", x.gone(0), 0);
        x.evening(0, 0);
        due("the last is called", x.gone(0), 32);
        x.evening(3, 0);
        due("the first is called, and no minute behind that", x.gone(0), 32);
        x.evening(0, 0);
        due("the first is called", x.gone(0), 33);
        due("not called by that", x.of(5, 3), 0);
    }

    static void promise25_asksAlone() {
        says("what is asked changes nothing");
        for (int asked = 0; asked <= 1; asked++) {
            int what = asked;
            changesNothing(BoundaryTests::somePark, "gone(" + what + ")", y -> y.gone(what));
            changesNothing(BoundaryTests::fullPark, "gone(" + what + ")", y -> y.gone(what));
        }
        LockedAtDusk x = hearsAt10000();
        x.evening(0, 0);
        due("9999", x.gone(0), 0);
        x.evening(0, 0);
        due("10000", x.gone(0), 1);
        due("told(0)", x.told(0), 9999);
    }

    // ---- 26 book

    static void promise26_places() {
        says("A row comes to the BOOK: how many there are ... BAD: place");
        LockedAtDusk x = madeBy(BoundaryTests::somePark);
        due("book(0, 0)", x.book(0, 0), 4);
        due("book(2, 29)", x.book(2, 29), 5);
        for (int place : new int[] {-1, 30, SMALL, BIG}) {
            refused(BoundaryTests::somePark, "book(0, " + place + ")", y -> y.book(0, place), BAD);
        }
    }

    static void promise26_people() {
        says("NONE");
        for (int person : new int[] {-2, 3, SMALL, BIG}) {
            refused(BoundaryTests::somePark, "book(" + person + ", 3)", y -> y.book(person, 3), NONE);
            refused(BoundaryTests::somePark, "book(" + person + ", 30)", y -> y.book(person, 30), NONE);
        }
        refused(BoundaryTests::newOne, "book(0, 3)", y -> y.book(0, 3), NONE);
    }

    static void promise26_eightAtMost() {
        says("(8 at most) ... FULL: 8");
        LockedAtDusk x = fresh();
        x.person(0, 0, 0);
        for (int i = 1; i <= 8; i++) {
            due("book(0, 3)", x.book(0, 3), i);
            due("count(6)", x.count(6), i);
        }
        due("a ninth", x.book(0, 3), FULL);
        refused(BoundaryTests::fullPark, "a ninth", y -> y.book(0, 3), FULL);
    }

    static void promise26_orderOfRefusals() {
        says("NONE; BAD: place; FULL: 8 ... the first that a call's words name");
        refused(BoundaryTests::fullPark, "book(6, 30)", y -> y.book(6, 30), NONE);
        refused(BoundaryTests::fullPark, "book(-2, 3)", y -> y.book(-2, 3), NONE);
        refused(BoundaryTests::fullPark, "book(5, 30)", y -> y.book(5, 30), BAD);
        refused(BoundaryTests::fullPark, "book(0, -1)", y -> y.book(0, -1), BAD);
    }

    static void promise26_emptyThen() {
        says("(person -1: it is empty then, 0, whatever the other is)");
        for (int place : new int[] {-1, 0, 30, SMALL, BIG}) {
            LockedAtDusk x = madeBy(BoundaryTests::fullPark);
            due("looked()", x.looked(), 0);
            due("book(-1, " + place + ")", x.book(-1, place), 0);
            due("count(6)", x.count(6), 0);
            due("looked()", x.looked(), NOT_ANY);
            due("the first then", x.book(5, 9), 1);
            due("looked()", x.looked(), NOT_ANY);
        }
        due("none there already", fresh().book(-1, 0), 0);
    }

    // ---- 27 looked

    static void promise27_firstOfAll() {
        says("the number of the first of these rows by which that one is elsewhere now (-5: none)");
        LockedAtDusk x = fresh();
        x.person(0, 0, 0);
        x.person(0, 0, 29);
        due("no rows", x.looked(), NOT_ANY);
        for (int i = 0; i < 4; i++) {
            x.book(0, 0);
            x.book(1, i == 3 ? 28 : 29);
        }
        due("the eighth", x.looked(), 7);
        x.put(1, 28);
        due("the second", x.looked(), 1);
        x.put(0, 1);
        due("the first", x.looked(), 0);
        x.book(-1, 0);
        x.book(0, 1);
        due("none", x.looked(), NOT_ANY);
    }

    static void promise27_asksAlone() {
        says("what is asked changes nothing");
        changesNothing(BoundaryTests::newOne, "looked()", y -> y.looked());
        changesNothing(BoundaryTests::somePark, "looked()", y -> y.looked());
        changesNothing(BoundaryTests::fullPark, "looked()", y -> y.looked());
    }

    // ---- 28 judge

    /** Six people, and tape 0 of bytes that tells their places from place 2 on, and no more. */
    private static void judged(LockedAtDusk x) {
        int[] places = {0, 29, 7, 8, 9, 10};
        x.tape(0, 0, 8);
        for (int i = 0; i < 6; i++) {
            x.person(0, 0, places[i]);
            x.item(0, 2 + i, places[i]);
        }
        for (int sort = 1; sort <= 4; sort++) {
            x.tape(sort, sort, 8);
        }
    }

    static void promise28_theFirstThatIsOtherwise() {
        says("the first that is otherwise; -5: none");
        LockedAtDusk x = madeBy(BoundaryTests::judged);
        due("none", x.judge(0, 2), NOT_ANY);
        x.put(5, 11);
        due("the last", x.judge(0, 2), 5);
        x.put(3, 29);
        due("the fourth", x.judge(0, 2), 3);
        x.put(0, 1);
        due("the first", x.judge(0, 2), 0);
        x.item(0, 2, 256 + 1);
        due("a byte has eight bits", x.judge(0, 2), 3);
        x.item(0, 5, -227);
        due("-227 is 29 in eight bits", x.judge(0, 2), 5);
    }

    static void promise28_theRowEnds() {
        says("100 and how many were looked at, if the row ends ahead of that");
        for (int people = 0; people <= 6; people++) {
            for (int size = 0; size <= 7; size++) {
                LockedAtDusk x = fresh();
                x.tape(0, 0, size);
                for (int i = 0; i < people; i++) {
                    x.person(0, 0, 0);
                }
                String call = people + " people, a row of " + size;
                due(call, x.judge(0, 0), size >= people ? NOT_ANY : 100 + size);
                due(call + ", from its end on", x.judge(0, size), people == 0 ? NOT_ANY : 100);
                due(call + ", from beyond its end on", x.judge(0, size + 1), people == 0 ? NOT_ANY : 100);
            }
        }
        LockedAtDusk x = madeBy(BoundaryTests::judged);
        for (int person = 0; person < 5; person++) {
            x.put(person, x.of(person + 1, 2));
        }
        due("five are looked at, and the row ends", x.judge(0, 3), 105);
        x.put(4, 11);
        due("otherwise ahead of the end", x.judge(0, 3), 4);
        LockedAtDusk y = fresh();
        y.person(0, 0, 0);
        y.tape(0, 0, 60);
        due("the last place", y.judge(0, 59), NOT_ANY);
        due("behind it", y.judge(0, 60), 100);
        due("far behind it", y.judge(0, BIG), 100);
    }

    static void promise28_placeBelow0() {
        says("(or the place is below 0, or the TAPE holds nothing)");
        LockedAtDusk x = madeBy(BoundaryTests::judged);
        due("0", x.judge(0, 0), 1);
        due("-1", x.judge(0, -1), 100);
        due("SMALL", x.judge(0, SMALL), 100);
        due("the tape holds nothing", x.judge(5, 0), 100);
        due("the tape holds nothing, -1", x.judge(5, -1), 100);
        x.tape(0, -1, 8);
        due("it holds nothing any more", x.judge(0, 2), 100);
        x.tape(0, 0, 0);
        due("no items", x.judge(0, 0), 100);
        LockedAtDusk y = fresh();
        y.person(0, 0, 0);
        y.tape(0, 0, 60);
        due("one alone, 0", y.judge(0, 0), NOT_ANY);
        due("one alone, -1", y.judge(0, -1), 100);
    }

    static void promise28_nobodyToLookAt() {
        says("-5: none, or there is none to look at");
        LockedAtDusk x = fresh();
        due("the tape holds nothing", x.judge(0, 0), NOT_ANY);
        due("and below 0", x.judge(0, -1), NOT_ANY);
        x.tape(0, 0, 3);
        due("a row of bytes", x.judge(0, 0), NOT_ANY);
        due("its end", x.judge(0, 3), NOT_ANY);
        due("beyond its end", x.judge(0, BIG), NOT_ANY);
        due("below 0", x.judge(0, -1), NOT_ANY);
        x.person(0, 0, 0);
        due("one is there", x.judge(0, 3), 100);
    }

    static void promise28_refusals() {
        says("NONE: tape; CAST: it is no row of bytes.");
        for (int tape : new int[] {-1, 6, SMALL, BIG}) {
            refused(BoundaryTests::judged, "judge(" + tape + ", 2)", y -> y.judge(tape, 2), NONE);
        }
        for (int sort = 1; sort <= 4; sort++) {
            int tape = sort;
            refused(BoundaryTests::judged, "judge of sort " + sort, y -> y.judge(tape, 0), CAST);
            refused(BoundaryTests::judged, "judge of sort " + sort + ", -1", y -> y.judge(tape, -1), CAST);
            refused(BoundaryTests::judged, "judge of sort " + sort + ", 8", y -> y.judge(tape, 8), CAST);
            refused(y -> y.tape(5, tape, 3), "judge of sort " + sort + ", nobody", y -> y.judge(5, 0), CAST);
        }
        LockedAtDusk x = fresh();
        x.person(0, 0, 3);
        x.tape(5, 0, 1);
        due("the last tape", x.judge(5, 0), 0);
    }

    static void promise28_asksAlone() {
        says("what is asked changes nothing");
        changesNothing(BoundaryTests::judged, "judge(0, 2)", y -> y.judge(0, 2));
        changesNothing(BoundaryTests::judged, "judge(0, 5)", y -> y.judge(0, 5));
        changesNothing(BoundaryTests::judged, "judge(5, -1)", y -> y.judge(5, -1));
    }

    // ---- 29 image, 30 undo

    static void promise29_howManyPeople() {
        says("THE IMAGE is taken: how many PEOPLE there are.");
        LockedAtDusk x = fresh();
        for (int people = 0; people <= 6; people++) {
            due("image()", x.image(), people);
            due("undo()", x.undo(), people);
            due("count(0)", x.count(0), people);
            x.person(0, 0, 0);
        }
        due("six", x.image(), 6);
    }

    static void promise29_changesTheImageAlone() {
        says("THE IMAGE is taken");
        LockedAtDusk one = madeBy(BoundaryTests::somePark);
        LockedAtDusk twin = madeBy(BoundaryTests::somePark);
        one.image();
        one.image();
        twin.image();
        due("an image of an image", firstUnlike(one, twin).length(), 0);
        LockedAtDusk before = madeBy(BoundaryTests::fullPark);
        LockedAtDusk after = madeBy(BoundaryTests::fullPark);
        before.image();
        after.image();
        after.undo();
        due("undo at once", firstUnlike(before, after).length(), 0);
    }

    static void promise29_theLatestCounts() {
        says("THE IMAGE is taken");
        LockedAtDusk x = withGates(4);
        x.person(0, 0, 1);
        x.image();
        x.put(0, 2);
        x.image();
        x.put(0, 3);
        x.undo();
        due("the latest image's place", x.of(0, 2), 2);
    }

    static void promise30_thereIsNone() {
        says("STATE: there is none.");
        refused(BoundaryTests::newOne, "undo()", y -> y.undo(), STATE);
        refused(BoundaryTests::lastAt99, "undo()", y -> y.undo(), STATE);
        refused(BoundaryTests::fullText, "undo()", y -> y.undo(), STATE);
        LockedAtDusk x = fresh();
        due("none", x.undo(), STATE);
        due("none still", x.undo(), STATE);
        x.image();
        due("one", x.undo(), 0);
        due("it is there still", x.undo(), 0);
    }

    static void promise30_backToNothing() {
        says("GATES, PEOPLE with all that is theirs, THE KEEPER, THE ROUND, MINUTE, SEEN, the EVENING, the BOOK, which DUSK holds.");
        LockedAtDusk one = fresh();
        one.image();
        fillAll(one);
        tellTheRest(one);
        due("undo()", one.undo(), 0);
        LockedAtDusk twin = fresh();
        twin.image();
        tellTheRest(twin);
        due("undo()", twin.undo(), 0);
        due("all is as the image", firstUnlike(one, twin).length(), 0);
        for (int what : new int[] {0, 1, 3, 4, 5, 6}) {
            due("count(" + what + ")", one.count(what), 0);
        }
    }

    static void promise30_backToAsManyAsMayBe() {
        says("GATES, PEOPLE with all that is theirs, THE KEEPER, THE ROUND, MINUTE, SEEN, the EVENING, the BOOK, which DUSK holds.");
        LockedAtDusk x = madeBy(BoundaryTests::fillAll);
        due("image()", x.image(), 6);
        x.round(-1);
        x.see(-1, true, 0);
        x.evening(-1, 0);
        x.book(-1, 0);
        for (int i = 0; i < 6; i++) {
            x.row(i, 3, 0);
            x.call(i, false);
            x.shut(i, false);
            x.put(i, 20);
        }
        x.pass(60);
        due("undo()", x.undo(), 6);
        int[] counts = {6, 6, 0, 6, 5, 10, 8, 0};
        for (int what = 0; what < counts.length; what++) {
            due("count(" + what + ")", x.count(what), counts[what]);
        }
        due("minute", x.told(0), 3);
        due("shut", x.told(5), 63);
        for (int person = 0; person < 6; person++) {
            due("kind of " + person, x.of(person, 0), 6);
            due("v of " + person, x.of(person, 1), 9);
            due("place of " + person, x.of(person, 2), 4);
            due("called " + person, x.of(person, 3), 1);
            due("found by " + person, x.of(person, 4), 7);
            due("row of " + person, x.row(person, 3, 9), 9);
        }
        due("a seventh gate", x.gate(0), FULL);
        due("a seventh one", x.person(0, 0, 0), FULL);
        due("a seventh of the round", x.round(0), FULL);
        due("a sixth of seen", x.see(0, true, 0), FULL);
        due("an eleventh of the evening", x.evening(0, 0), FULL);
        due("a ninth of the book", x.book(0, 0), FULL);
    }

    /** As many as may be of all that the image holds; in three minutes each one finds three gates shut. */
    private static void fillAll(LockedAtDusk x) {
        for (int i = 0; i < 6; i++) {
            x.gate(4);
            x.person(6, 9, 4);
            x.row(i, 3, 9);
            x.call(i, true);
            x.shut(i, true);
        }
        for (int i = 0; i < 6; i++) {
            x.round(i);
        }
        for (int i = 0; i < 5; i++) {
            x.see(5, true, 20);
        }
        for (int i = 0; i < 10; i++) {
            x.evening(2, 5);
        }
        for (int i = 0; i < 8; i++) {
            x.book(5, 29);
        }
        x.pass(3);
    }

    /** What is not the image's: the text, the dusks, the tapes, the trace. */
    private static void tellTheRest(LockedAtDusk x) {
        duskOf(x, "bell 2;pace 2;keen 2 p=0");
        feedAll(x, "bell 5;pace 4;deaf 1 p=0");
        x.tape(0, 0, 3);
        x.item(0, 1, 7);
    }

    static void promise30_againAndAgain() {
        says("All is as THE IMAGE: how many PEOPLE.");
        LockedAtDusk x = withGates(4);
        x.person(0, 0, 4);
        x.image();
        for (int i = 0; i < 3; i++) {
            x.pass(1);
            due("out", x.told(6), 1);
            x.person(3, 3, 3);
            due("undo()", x.undo(), 1);
            due("not out", x.told(6), 0);
            due("minute", x.told(0), 0);
        }
    }

    static void promise30_rowsAsTheyWere() {
        says("SEEN, the EVENING, the BOOK");
        LockedAtDusk x = withGates(9, 9, 9);
        x.person(0, 0, 5);
        x.person(0, 0, 6);
        x.see(0, true, 0);
        x.see(1, false, 20);
        x.evening(2, 1);
        x.evening(2, 2);
        x.book(0, 5);
        x.book(1, 6);
        x.image();
        x.see(-1, true, 0);
        x.see(1, false, 0);
        x.see(0, false, 0);
        x.evening(-1, 0);
        x.evening(1, 0);
        x.evening(2, 0);
        x.book(-1, 0);
        x.book(1, 6);
        x.book(0, 9);
        due("seen", x.where(1, 0), 30);
        due("the evening", x.gone(1), 1);
        due("the book", x.looked(), 1);
        x.undo();
        due("seen as it was: 0 would be out now", x.where(1, 0), 0);
        due("the evening as it was", x.gone(1), 6);
        due("the book as it was", x.looked(), NOT_ANY);
        x.put(1, 0);
        due("its second row", x.looked(), 1);
        x.put(0, 0);
        due("its first row", x.looked(), 0);
        LockedAtDusk y = withGates(9);
        y.person(0, 0, 9);
        y.call(0, true);
        y.see(0, true, 20);
        y.image();
        y.see(-1, true, 0);
        y.see(0, false, 0);
        y.undo();
        due("seen as it was: out behind 20", y.where(0, 0), 30);
        y.see(0, false, 1);
        due("and one more, behind 1", y.where(0, 0), 25);
    }

    static void promise30_whichDuskHolds() {
        says("which DUSK holds");
        LockedAtDusk x = fresh();
        x.image();
        for (int dusk = 0; dusk < 6; dusk++) {
            duskOf(x, "bell " + dusk);
            due("the newest", x.told(1), dusk);
            x.undo();
            due("none held", x.told(1), 8);
            due("the dusks are counted on", x.count(2), dusk + 1);
        }
        due("a seventh", duskOf(x, "bell 9"), FULL);
        LockedAtDusk y = fresh();
        duskOf(y, "bell 3");
        y.image();
        duskOf(y, "bell 4");
        y.undo();
        due("the first holds", y.told(1), 3);
        due("a third", duskOf(y, "bell 5"), 2);
        y.image();
        y.undo();
        due("the third holds", y.told(1), 5);
    }

    // ---- 31 act, 32 trace

    static void promise31_xWraps() {
        says("ACTS of a PERSON with x (wrapping)");
        LockedAtDusk x = fresh();
        x.person(0, 9, 0);
        x.person(0, 0, 0);
        x.person(2, 0, 0);
        x.person(4, 0, 0);
        x.person(5, 0, 0);
        x.person(6, 9, 0);
        due("x + 1, the last that does not wrap", x.act(1, 0, BIG - 1), BIG);
        due("x + 1", x.act(1, 0, BIG), SMALL);
        due("x - 9, the last that does not wrap", x.act(0, 1, SMALL + 9), SMALL);
        due("x - 9", x.act(0, 1, SMALL + 8), BIG);
        due("(x - 9) * 2, the last that does not wrap", x.act(0, 2, (1 << 30) + 8), BIG - 1);
        due("(x - 9) * 2", x.act(0, 2, (1 << 30) + 9), SMALL);
        due("x * 3 + 2, the last that does not wrap", x.act(2, 0, 715827881), BIG - 2);
        due("x * 3 + 2", x.act(2, 0, 715827882), SMALL);
        due("x * 3", x.act(2, 0, 715827883), SMALL + 3);
        due("-(x + 3), the last that does not wrap", x.act(3, 0, BIG - 3), -BIG);
        due("-(x + 3)", x.act(3, 0, BIG - 2), SMALL);
        due("-(x + 1 + 3) ^ 6", x.act(3, 1, BIG), BIG - 4);
        due("((x - 4) * 3 + 4) * 2", x.act(4, 2, SMALL), -16);
        due("(x + 5) ^ 9", x.act(5, 0, BIG), SMALL + 13);
    }

    static void promise31_noSuchPersonOrAct() {
        says("0, and no TRACE then: no such PERSON, act.");
        int[][] calls = {{0, -1}, {0, 3}, {0, SMALL}, {0, BIG}, {-1, 0}, {3, 0}, {SMALL, 1}, {BIG, 2}, {3, 3}};
        for (int[] call : calls) {
            LockedAtDusk x = madeBy(BoundaryTests::somePark);
            due("bodies ahead of it", x.count(8), 5);
            due("act(" + call[0] + ", " + call[1] + ", 5)", x.act(call[0], call[1], 5), 0);
            due("count(8)", x.count(8), 0);
            due("trace(0)", x.trace(0), NONE);
            LockedAtDusk twin = madeBy(BoundaryTests::somePark);
            twin.act(9, 9, 0);
            due("no more has changed", firstUnlike(x, twin).length(), 0);
        }
        due("act(0, 0, 5) of a new one", fresh().act(0, 0, 5), 0);
    }

    static void promise31_actsAre0To2() {
        says("An ACT (0 waits, 1 walks, 2 tells) of a PERSON with x.");
        LockedAtDusk x = fresh();
        for (int i = 0; i < 6; i++) {
            x.person(0, i, 0);
        }
        for (int i = 0; i < 6; i++) {
            due("waits of " + i, x.act(i, 0, 10), 10 + i);
            due("walks of " + i, x.act(i, 1, 10), 10);
            due("tells of " + i, x.act(i, 2, 10), 20);
        }
        due("a seventh", x.act(6, 0, 10), 0);
    }

    static void promise31_changesTheTraceAlone() {
        says("What is answered so changes nothing");
        changesNothing(BoundaryTests::somePark, "act(1, 1, 5), as it was made already", y -> y.act(1, 1, 5));
    }

    static void promise32_places() {
        says("THE TRACE's i-th body. NONE.");
        LockedAtDusk x = fresh();
        x.person(0, 3, 0);
        due("no act yet", x.trace(0), NONE);
        x.act(0, 2, 4);
        int[] bodies = {12, 11, 10};
        for (int i = 0; i < bodies.length; i++) {
            due("trace(" + i + ")", x.trace(i), bodies[i]);
        }
        for (int i : new int[] {-1, 3, 19, 20, 21, SMALL, BIG}) {
            due("trace(" + i + ")", x.trace(i), NONE);
            refused(BoundaryTests::somePark, "trace(" + (i == 3 ? 5 : i) + ")", y -> y.trace(i == 3 ? 5 : i), NONE);
        }
        x.act(0, 0, 4);
        due("the latest alone", x.trace(0), 10);
        due("the latest alone", x.trace(1), NONE);
    }

    static void promise32_theNextKindAbove() {
        says("the body of its KIND, or, if that has none, of the next KIND above that has one");
        int[][][] bodies = {
            {{10}, {11, 10}, {12, 11, 10}},
            {{10}, {20, 11, 10}, {12, 20, 11, 10}},
            {{30, 10}, {11, 30, 10}, {12, 11, 30, 10}},
            {{10}, {11, 10}, {40, 12, 11, 10, 11, 10}},
            {{50, 10}, {51, 20, 11, 50, 10}, {12, 51, 20, 11, 50, 10}},
            {{30, 10}, {11, 30, 10}, {60, 12, 11, 30, 10}},
            {{71, 10}, {70, 11, 71, 10, 10}, {40, 12, 70, 11, 71, 10, 10, 70, 11, 71, 10, 10}}};
        // By x 7, v 3 and number 1.
        int[][] answers = {{8, 5, 10}, {8, 3, 6}, {22, 19, 38}, {8, 5, 9}, {-8, (-9 - 3) ^ 6, ((-9 - 3) ^ 6) * 2},
            {22, 19, (18 + 1 - 3) * 2}, {11, 11, 22 + 1 - 3 + 3}};
        for (int kind = 0; kind <= 6; kind++) {
            LockedAtDusk x = fresh();
            x.person(0, 0, 0);
            x.person(kind, 3, 0);
            for (int act = 0; act <= 2; act++) {
                String call = "kind " + kind + ", act " + act;
                due(call, x.act(1, act, 7), answers[kind][act]);
                due(call + ", bodies", x.count(8), bodies[kind][act].length);
                for (int i = 0; i < bodies[kind][act].length; i++) {
                    due(call + ", trace(" + i + ")", x.trace(i), bodies[kind][act][i]);
                }
            }
        }
    }

    static void promise32_theLongest() {
        says("the numbers of the bodies that ran in the latest act(), as they began; the first 20 are kept");
        LockedAtDusk x = fresh();
        x.person(6, 3, 0);
        x.act(0, 2, 5);
        int[] bodies = {40, 12, 70, 11, 71, 10, 10, 70, 11, 71, 10, 10};
        due("count(8)", x.count(8), bodies.length);
        for (int i = 0; i < bodies.length; i++) {
            due("trace(" + i + ")", x.trace(i), bodies[i]);
        }
        due("trace(12)", x.trace(12), NONE);
        // No act of any kind runs more bodies than that: the twenty are never full.
        for (int kind = 0; kind <= 6; kind++) {
            LockedAtDusk y = fresh();
            y.person(kind, 9, 0);
            for (int act = 0; act <= 2; act++) {
                y.act(0, act, 7);
                due("no more than 12 of kind " + kind + ", act " + act, Math.max(12, y.count(8)), 12);
                due("its last", y.trace(y.count(8) - 1) / 10, 1);
                due("behind its last", y.trace(y.count(8)), NONE);
            }
        }
    }

    static void promise32_asksAlone() {
        says("what is asked changes nothing");
        changesNothing(BoundaryTests::somePark, "trace(0)", y -> y.trace(0));
        changesNothing(BoundaryTests::somePark, "trace(4)", y -> y.trace(4));
    }

    // ---- 33 taken

    static void promise33_kIs0To6() {
        says("one of KIND k (0 .. 6) ... BAD: k");
        for (int kind = 0; kind <= 6; kind++) {
            LockedAtDusk x = fresh();
            x.person(kind, 0, 0);
            due("taken for its own kind", x.taken(0, kind), kind);
            due("taken for 0", x.taken(0, 0), kind);
        }
        for (int k : new int[] {-1, 7, SMALL, BIG}) {
            refused(BoundaryTests::fullPark, "taken(0, " + k + ")", y -> y.taken(0, k), BAD);
        }
    }

    static void promise33_nobody() {
        says("NOTHING: no such PERSON");
        LockedAtDusk x = madeBy(BoundaryTests::fullPark);
        due("taken(5, 1)", x.taken(5, 1), 1);
        for (int person : new int[] {-1, 6, SMALL, BIG}) {
            refused(BoundaryTests::fullPark, "taken(" + person + ", 0)", y -> y.taken(person, 0), NOTHING);
            refused(BoundaryTests::fullPark, "taken(" + person + ", 6)", y -> y.taken(person, 6), NOTHING);
        }
        refused(BoundaryTests::newOne, "taken(0, 0)", y -> y.taken(0, 0), NOTHING);
        refused(BoundaryTests::somePark, "taken(3, 0)", y -> y.taken(3, 0), NOTHING);
    }

    static void promise33_anotherKind() {
        says("taken for one of KIND k (0 .. 6), or one under that: its KIND. ... CAST.");
        String[] above = {"0", "01", "02", "03", "014", "025", "036"};
        for (int kind = 0; kind <= 6; kind++) {
            int its = kind;
            LockedAtDusk x = fresh();
            x.person(kind, 0, 0);
            for (int k = 0; k <= 6; k++) {
                boolean is = above[kind].indexOf('0' + k) >= 0;
                due("kind " + kind + " taken for " + k, x.taken(0, k), is ? kind : CAST);
                int other = k;
                refused(y -> y.person(its, 0, 0), "taken for " + k, y -> y.taken(0, other), is ? kind : CAST);
            }
        }
    }

    static void promise33_orderOfRefusals() {
        says("BAD: k; NOTHING: no such PERSON; CAST ... the first that a call's words name");
        refused(BoundaryTests::newOne, "taken(0, 7)", y -> y.taken(0, 7), BAD);
        refused(BoundaryTests::somePark, "taken(-1, -1)", y -> y.taken(-1, -1), BAD);
        refused(BoundaryTests::somePark, "taken(3, 5)", y -> y.taken(3, 5), NOTHING);
        refused(BoundaryTests::somePark, "taken(0, 5)", y -> y.taken(0, 5), CAST);
    }

    // ---- 34 count

    static void promise34_whats() {
        says("How many: 0 PEOPLE ... 8 bodies that ran in the latest act() (all, kept or not). BAD.");
        LockedAtDusk x = madeBy(BoundaryTests::somePark);
        int[] counts = {3, 3, 1, 4, 2, 4, 3, 13, 5};
        for (int what = 0; what < counts.length; what++) {
            due("count(" + what + ")", x.count(what), counts[what]);
        }
        LockedAtDusk full = madeBy(BoundaryTests::fullPark);
        int[] most = {6, 6, 6, 6, 5, 10, 8, 1, 0};
        for (int what = 0; what < most.length; what++) {
            due("count(" + what + ") of as many as may be", full.count(what), most[what]);
        }
        for (int what : new int[] {-1, 9, SMALL, BIG}) {
            refused(BoundaryTests::somePark, "count(" + what + ")", y -> y.count(what), BAD);
        }
    }

    static void promise34_asksAlone() {
        says("what is asked changes nothing");
        for (int asked = 0; asked <= 8; asked++) {
            int what = asked;
            changesNothing(BoundaryTests::somePark, "count(" + what + ")", y -> y.count(what));
        }
    }

    // ---- 35 tape

    /** A row of three of each sort; tape 5 holds nothing. */
    private static void rows(LockedAtDusk x) {
        x.person(0, 0, 1);
        for (int sort = 0; sort <= 4; sort++) {
            x.tape(sort, sort, 3);
            for (int i = 0; i < 3; i++) {
                x.item(sort, i, i + 1);
            }
        }
    }

    private static void dueRow(LockedAtDusk x, int tape, long... items) {
        for (int i = 0; i < items.length; i++) {
            due("read(" + tape + ", " + i + ")", x.read(tape, i), items[i]);
        }
        due("read(" + tape + ", " + items.length + ")", x.read(tape, items.length), NO);
        due("read(" + tape + ", -1)", x.read(tape, -1), NO);
    }

    static void promise35_tapesAre0To5() {
        says("TAPES 0 .. 5 ... NONE: tape");
        LockedAtDusk x = fresh();
        for (int tape = 0; tape <= 5; tape++) {
            due("tape(" + tape + ", 3, 2)", x.tape(tape, 3, 2), 1);
            x.item(tape, 1, tape + 7);
        }
        for (int tape = 0; tape <= 5; tape++) {
            dueRow(x, tape, 0, tape + 7);
        }
        for (int tape : new int[] {-1, 6, SMALL, BIG}) {
            refused(BoundaryTests::rows, "tape(" + tape + ", 0, 2)", y -> y.tape(tape, 0, 2), NONE);
            refused(BoundaryTests::rows, "tape(" + tape + ", -1, 2)", y -> y.tape(tape, -1, 2), NONE);
        }
    }

    static void promise35_sortsAre0To4() {
        says("a row of 0 bytes, 1 shorts, 2 ints, 3 longs, 4 booleans (items 0, 1) ... BAD: sort");
        long[] minusTwo = {-2, -2, -2, -2, 1};
        for (int sort = 0; sort <= 4; sort++) {
            LockedAtDusk x = fresh();
            due("sort " + sort, x.tape(0, sort, 1), 1);
            x.item(0, 0, -2);
            dueRow(x, 0, minusTwo[sort]);
        }
        for (int sort : new int[] {-2, 5, SMALL, BIG}) {
            refused(BoundaryTests::rows, "tape(0, " + sort + ", 2)", y -> y.tape(0, sort, 2), BAD);
            refused(BoundaryTests::rows, "tape(5, " + sort + ", 2)", y -> y.tape(5, sort, 2), BAD);
        }
    }

    static void promise35_sizesAre0To60() {
        says("a row of n (0 .. 60) ... BAD: sort, n above 60; SIZE.");
        for (int sort = 0; sort <= 4; sort++) {
            LockedAtDusk x = fresh();
            due("n 60", x.tape(0, sort, 60), 1);
            dueRow(x, 0, new long[60]);
            due("n 0", x.tape(0, sort, 0), 1);
            dueRow(x, 0);
            due("n 1", x.tape(0, sort, 1), 1);
            dueRow(x, 0, 0);
        }
        for (int n : new int[] {61, 62, BIG}) {
            refused(BoundaryTests::rows, "tape(0, 0, " + n + ")", y -> y.tape(0, 0, n), BAD);
            refused(BoundaryTests::rows, "tape(5, 3, " + n + ")", y -> y.tape(5, 3, n), BAD);
        }
        for (int n : new int[] {-1, -2, SMALL}) {
            refused(BoundaryTests::rows, "tape(0, 0, " + n + ")", y -> y.tape(0, 0, n), SIZE);
            refused(BoundaryTests::rows, "tape(5, 4, " + n + ")", y -> y.tape(5, 4, n), SIZE);
        }
    }

    static void promise35_orderOfRefusals() {
        says("NONE: tape; BAD: sort, n above 60; SIZE. ... the first that a call's words name");
        refused(BoundaryTests::rows, "tape(6, 5, 61)", y -> y.tape(6, 5, 61), NONE);
        refused(BoundaryTests::rows, "tape(-1, 0, -1)", y -> y.tape(-1, 0, -1), NONE);
        refused(BoundaryTests::rows, "tape(0, 5, -1)", y -> y.tape(0, 5, -1), BAD);
        refused(BoundaryTests::rows, "tape(0, -2, -1)", y -> y.tape(0, -2, -1), BAD);
        refused(BoundaryTests::rows, "tape(0, -2, 61)", y -> y.tape(0, -2, 61), BAD);
    }

    static void promise35_all0() {
        says("A TAPE becomes a row of n (0 .. 60) of a sort, all 0");
        LockedAtDusk x = fresh();
        x.tape(2, 3, 60);
        for (int i = 0; i < 60; i++) {
            x.item(2, i, i + 1);
        }
        due("a shorter one", x.tape(2, 3, 5), 1);
        dueRow(x, 2, 0, 0, 0, 0, 0);
        due("a longer one", x.tape(2, 3, 60), 1);
        dueRow(x, 2, new long[60]);
        x.item(2, 59, 9);
        due("as long a one of another sort", x.tape(2, 0, 60), 1);
        dueRow(x, 2, new long[60]);
    }

    static void promise35_holdsNothing() {
        says("or holds nothing (sort -1: n does not matter): 1.");
        for (int n : new int[] {-1, 0, 3, 60, 61, SMALL, BIG}) {
            LockedAtDusk x = madeBy(BoundaryTests::rows);
            due("tape(0, -1, " + n + ")", x.tape(0, -1, n), 1);
            dueRow(x, 0);
            due("item(0, 0, 1)", x.item(0, 0, 1), NOTHING);
            due("it held nothing", x.tape(5, -1, n), 1);
            due("item(5, 0, 1)", x.item(5, 0, 1), NOTHING);
            dueRow(x, 1, 1, 2, 3);
        }
        LockedAtDusk y = madeBy(BoundaryTests::rows);
        y.tape(0, 0, 0);
        due("a row of none is not nothing", y.item(0, 0, 1), PLACE);
    }

    // ---- 36 item

    static void promise36_lowestBits() {
        says("Item i of a TAPE becomes v (its lowest bits, as many as an item has; booleans: whether v is not 0): 1.");
        long[][] bits8 = {{127, 127}, {128, -128}, {255, -1}, {256, 0}, {-128, -128}, {-129, 127}, {-1, -1}, {385, -127}};
        long[][] bits16 = {{32767, 32767}, {32768, -32768}, {65535, -1}, {65536, 0}, {-32768, -32768}, {-32769, 32767}};
        long top = 1L << 31;
        long[][] bits32 = {{top - 1, top - 1}, {top, -top}, {2 * top - 1, -1}, {2 * top, 0}, {-top, -top}, {-top - 1, top - 1}};
        long[][] bits64 = {{Long.MAX_VALUE, Long.MAX_VALUE}, {NO, NO}, {-1, -1}, {0, 0}, {top, top}};
        long[][] whether = {{0, 0}, {1, 1}, {-1, 1}, {2, 1}, {256, 1}, {65536, 1}, {2 * top, 1}, {NO, 1}, {Long.MAX_VALUE, 1}};
        long[][][] all = {bits8, bits16, bits32, bits64, whether};
        for (int sort = 0; sort <= 4; sort++) {
            LockedAtDusk x = fresh();
            x.tape(0, sort, 3);
            for (long[] one : all[sort]) {
                due("sort " + sort + ": item(0, 1, " + one[0] + ")", x.item(0, 1, one[0]), 1);
                dueRow(x, 0, 0, one[1], 0);
            }
        }
    }

    static void promise36_places() {
        says("NONE; NOTHING; PLACE.");
        LockedAtDusk x = fresh();
        for (int sort = 0; sort <= 4; sort++) {
            x.tape(sort, sort, 60);
            due("the first", x.item(sort, 0, 1), 1);
            due("the last", x.item(sort, 59, 1), 1);
            due("behind the last", x.item(sort, 60, 1), PLACE);
            due("the first", x.read(sort, 0), 1);
            due("the last", x.read(sort, 59), 1);
            int tape = sort;
            for (int i : new int[] {-1, 3, 59, 60, SMALL, BIG}) {
                refused(BoundaryTests::rows, "item(" + tape + ", " + i + ", 9)", y -> y.item(tape, i, 9), PLACE);
            }
        }
        Calls noItems = y -> y.tape(0, 0, 0);
        refused(noItems, "item(0, 0, 1)", y -> y.item(0, 0, 1), PLACE);
        refused(noItems, "item(0, -1, 1)", y -> y.item(0, -1, 1), PLACE);
    }

    static void promise36_orderOfRefusals() {
        says("NONE; NOTHING; PLACE. ... the first that a call's words name");
        for (int tape : new int[] {-1, 6, SMALL, BIG}) {
            refused(BoundaryTests::rows, "item(" + tape + ", 0, 1)", y -> y.item(tape, 0, 1), NONE);
            refused(BoundaryTests::rows, "item(" + tape + ", -1, 1)", y -> y.item(tape, -1, 1), NONE);
        }
        for (int i : new int[] {-1, 0, 60, SMALL, BIG}) {
            refused(BoundaryTests::rows, "item(5, " + i + ", 1)", y -> y.item(5, i, 1), NOTHING);
            refused(BoundaryTests::newOne, "item(0, " + i + ", 1)", y -> y.item(0, i, 1), NOTHING);
        }
    }

    // ---- 37 read

    static void promise37_places() {
        says("NO: no such TAPE, nothing there, no such place.");
        LockedAtDusk x = madeBy(BoundaryTests::rows);
        dueRow(x, 0, 1, 2, 3);
        dueRow(x, 3, 1, 2, 3);
        dueRow(x, 4, 1, 1, 1);
        for (int tape = 0; tape <= 4; tape++) {
            int its = tape;
            for (int i : new int[] {-1, 3, 60, SMALL, BIG}) {
                refused(BoundaryTests::rows, "read(" + tape + ", " + i + ")", y -> y.read(its, i), NO);
            }
        }
        for (int tape : new int[] {-1, 5, 6, SMALL, BIG}) {
            refused(BoundaryTests::rows, "read(" + tape + ", 0)", y -> y.read(tape, 0), NO);
        }
        refused(BoundaryTests::newOne, "read(0, 0)", y -> y.read(0, 0), NO);
        refused(y -> y.tape(0, 3, 0), "read(0, 0) of no items", y -> y.read(0, 0), NO);
    }

    static void promise37_asksAlone() {
        says("what is asked changes nothing");
        changesNothing(BoundaryTests::rows, "read(0, 0)", y -> y.read(0, 0));
        changesNothing(BoundaryTests::rows, "read(4, 2)", y -> y.read(4, 2));
    }

    // ---- 38 shift

    static void promise38_asTheyAllWereBefore() {
        says("come to another one (or the same) from j on, as they all were before: n.");
        for (int i = 0; i <= 5; i++) {
            for (int j = 0; j <= 5; j++) {
                for (int n = 0; n <= 5 - Math.max(i, j); n++) {
                    LockedAtDusk x = fresh();
                    long[] want = new long[5];
                    x.tape(0, 3, 5);
                    for (int k = 0; k < 5; k++) {
                        x.item(0, k, k + 1);
                        want[k] = k >= j && k < j + n ? k - j + i + 1 : k + 1;
                    }
                    due("shift(0, " + i + ", 0, " + j + ", " + n + ")", x.shift(0, i, 0, j, n), n);
                    dueRow(x, 0, want);
                }
            }
        }
    }

    static void promise38_toAnotherOne() {
        says("n items of a TAPE from i on come to another one");
        for (int sort = 0; sort <= 4; sort++) {
            LockedAtDusk x = fresh();
            x.tape(0, sort, 3);
            x.tape(5, sort, 4);
            for (int i = 0; i < 3; i++) {
                x.item(0, i, 1);
            }
            due("all", x.shift(0, 0, 5, 1, 3), 3);
            dueRow(x, 5, 0, 1, 1, 1);
            dueRow(x, 0, 1, 1, 1);
            due("from the last on", x.shift(5, 0, 0, 2, 1), 1);
            dueRow(x, 0, 1, 1, 0);
            dueRow(x, 5, 0, 1, 1, 1);
        }
    }

    static void promise38_ends() {
        says("PLACE: n, i or j is below 0, or beyond either's end.");
        Calls threeAndFour = y -> {
            y.tape(0, 2, 3);
            y.tape(1, 2, 4);
            for (int i = 0; i < 3; i++) {
                y.item(0, i, 7 + i);
            }
        };
        int[][] allowed = {{0, 0, 3}, {0, 1, 3}, {2, 3, 1}, {3, 4, 0}, {3, 0, 0}, {0, 4, 0}, {1, 2, 2}};
        for (int[] call : allowed) {
            due("shift(0, " + call[0] + ", 1, " + call[1] + ", " + call[2] + ")",
                madeBy(threeAndFour).shift(0, call[0], 1, call[1], call[2]), call[2]);
        }
        int[][] refused = {{0, 0, 4}, {1, 0, 3}, {3, 0, 1}, {4, 0, 0}, {0, 2, 3}, {0, 4, 1}, {0, 5, 0}, {-1, 0, 1}, {0, -1, 1},
            {0, 0, -1}, {-1, 0, 0}, {0, -1, 0}, {1, 1, -1}, {BIG, 0, 1}, {0, BIG, 1}, {0, 0, BIG}, {BIG, BIG, BIG},
            {1, 1, BIG}, {SMALL, 0, 1}, {0, SMALL, 1}, {0, 0, SMALL}, {SMALL, SMALL, SMALL}, {BIG, 0, 0}, {0, BIG, 0}};
        for (int[] call : refused) {
            refused(threeAndFour, "shift(0, " + call[0] + ", 1, " + call[1] + ", " + call[2] + ")",
                y -> y.shift(0, call[0], 1, call[1], call[2]), PLACE);
        }
        refused(threeAndFour, "shift(1, 0, 0, 0, 4)", y -> y.shift(1, 0, 0, 0, 4), PLACE);
        refused(threeAndFour, "shift(1, 1, 1, 0, 4)", y -> y.shift(1, 1, 1, 0, 4), PLACE);
        due("shift(1, 0, 1, 0, 4)", madeBy(threeAndFour).shift(1, 0, 1, 0, 4), 4);
    }

    static void promise38_orderOfRefusals() {
        says("NONE: tapes; NOTHING; CAST: of unlike sorts; PLACE ... the first that a call's words name");
        for (int tape : new int[] {-1, 6, SMALL, BIG}) {
            refused(BoundaryTests::rows, "shift(" + tape + ", 0, 0, 0, 1)", y -> y.shift(tape, 0, 0, 0, 1), NONE);
            refused(BoundaryTests::rows, "shift(0, 0, " + tape + ", 0, 1)", y -> y.shift(0, 0, tape, 0, 1), NONE);
            refused(BoundaryTests::rows, "shift(" + tape + ", -1, 5, 0, 1)", y -> y.shift(tape, -1, 5, 0, 1), NONE);
            refused(BoundaryTests::rows, "shift(5, -1, " + tape + ", 0, 1)", y -> y.shift(5, -1, tape, 0, 1), NONE);
        }
        refused(BoundaryTests::rows, "shift(5, 0, 0, 0, 1)", y -> y.shift(5, 0, 0, 0, 1), NOTHING);
        refused(BoundaryTests::rows, "shift(0, 0, 5, 0, 0)", y -> y.shift(0, 0, 5, 0, 0), NOTHING);
        refused(BoundaryTests::rows, "shift(5, -1, 5, 0, 1)", y -> y.shift(5, -1, 5, 0, 1), NOTHING);
        refused(BoundaryTests::rows, "shift(0, 9, 5, 9, -1)", y -> y.shift(0, 9, 5, 9, -1), NOTHING);
        for (int sort = 0; sort <= 4; sort++) {
            for (int other = 0; other <= 4; other++) {
                int from = sort;
                int to = other;
                int want = sort == other ? PLACE : CAST;
                refused(BoundaryTests::rows, "shift(" + sort + ", -1, " + other + ", 0, 1)", y -> y.shift(from, -1, to, 0, 1), want);
                if (sort != other) {
                    refused(BoundaryTests::rows, "shift(" + sort + ", 0, " + other + ", 0, 0)", y -> y.shift(from, 0, to, 0, 0), CAST);
                }
            }
        }
    }
}
