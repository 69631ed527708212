// Tests by promise: each method is one promise of the document, with answers worked out by hand from its words.
public final class PromiseTests {
    private static int wrong = 0;
    private static String promise = "";

    private static void due(String call, long got, long want) {
        if (got != want) {
            wrong++;
            System.out.println(promise + ": " + call + " answered " + got + ", due is " + want);
        }
    }

    private static final int NONE = -1, BAD = -2, STATE = -3, FULL = -4, NOT_ANY = -5;
    private static final int NOTHING = -11, CAST = -12, PLACE = -13, SIZE = -14;
    private static final int BIG = Integer.MAX_VALUE, SMALL = Integer.MIN_VALUE;
    private static final long NO = Long.MIN_VALUE;

    public static void main(String[] args) {
        constants();
        aNewObject();
        gate();
        person();
        of();
        put();
        call();
        shut();
        row();
        round();
        feed();
        dusk();
        told();
        pass();
        on();
        clear();
        stay();
        bestFirst();
        bestSwap();
        bestQuick();
        bestWait();
        bestOpen();
        bestLeft();
        hides();
        see();
        where();
        can();
        odds();
        mean();
        evening();
        gone();
        book();
        looked();
        judge();
        image();
        undo();
        act();
        trace();
        taken();
        count();
        tape();
        item();
        read();
        shift();
        System.out.println(wrong == 0 ? "all promises hold" : wrong + " answers are not as due");
        if (wrong != 0) {
            System.exit(1);
        }
    }

    // ---- helpers

    private static LockedAtDusk fresh() {
        return new LockedAtDusk();
    }

    private static LockedAtDusk withGates(int... places) {
        LockedAtDusk x = fresh();
        for (int place : places) {
            x.gate(place);
        }
        return x;
    }

    private static int duskOf(LockedAtDusk x, String text) {
        for (int i = 0; i < text.length(); i++) {
            x.feed(text.charAt(i));
        }
        return x.dusk();
    }

    private static int faultOf(String text) {
        return -10 - duskOf(fresh(), text);
    }

    // ---- promises

    private static void constants() {
        promise = "the constants";
        due("NONE", LockedAtDusk.NONE, -1);
        due("BAD", LockedAtDusk.BAD, -2);
        due("STATE", LockedAtDusk.STATE, -3);
        due("FULL", LockedAtDusk.FULL, -4);
        due("NO", LockedAtDusk.NO, NO);
    }

    private static void aNewObject() {
        promise = "1 a new object";
        LockedAtDusk x = fresh();
        for (int what = 0; what <= 8; what++) {
            due("count(" + what + ")", x.count(what), 0);
        }
        due("told(0)", x.told(0), 0);
        due("told(1)", x.told(1), 8);
        due("told(2)", x.told(2), 3);
        due("told(3)", x.told(3), 0);
        due("told(4)", x.told(4), 0);
        due("told(5)", x.told(5), 0);
        due("told(6)", x.told(6), 0);
        due("undo()", x.undo(), STATE);
        due("read(0, 0)", x.read(0, 0), NO);
        LockedAtDusk other = fresh();
        x.gate(3);
        x.person(0, 0, 0);
        due("another's count(0)", other.count(0), 0);
        due("another's count(1)", other.count(1), 0);
    }

    private static void gate() {
        promise = "2 gate";
        LockedAtDusk x = fresh();
        due("gate(-1)", x.gate(-1), BAD);
        due("gate(30)", x.gate(30), BAD);
        due("gate(BIG)", x.gate(BIG), BAD);
        due("gate(SMALL)", x.gate(SMALL), BAD);
        due("gate(0)", x.gate(0), 0);
        due("gate(29)", x.gate(29), 1);
        due("gate(29)", x.gate(29), 2);
        due("told(10)", x.told(10), 0);
        due("told(12)", x.told(12), 29);
        due("gate(1)", x.gate(1), 3);
        due("gate(2)", x.gate(2), 4);
        due("gate(3)", x.gate(3), 5);
        due("a seventh", x.gate(4), FULL);
        due("a seventh at no place", x.gate(30), BAD);
        due("count(1)", x.count(1), 6);
        due("none is shut", x.told(5), 0);
    }

    private static void person() {
        promise = "3 person";
        LockedAtDusk x = fresh();
        due("kind -1", x.person(-1, 10, 30), NONE);
        due("kind 7", x.person(7, 0, 0), NONE);
        due("v -1", x.person(0, -1, 0), BAD);
        due("v 10", x.person(0, 10, 0), BAD);
        due("place -1", x.person(0, 0, -1), BAD);
        due("place 30", x.person(0, 0, 30), BAD);
        for (int i = 0; i < 6; i++) {
            due("person " + i, x.person(i + 1, 9 - i, 29 - i), i);
        }
        for (int i = 0; i < 6; i++) {
            due("its kind", x.of(i, 0), i + 1);
            due("its v", x.of(i, 1), 9 - i);
            due("its place", x.of(i, 2), 29 - i);
            due("called", x.of(i, 3), 0);
            due("found", x.of(i, 4), 0);
            due("out", x.of(i, 5), 0);
        }
        due("a seventh", x.person(0, 0, 0), FULL);
        due("a seventh, bad", x.person(0, 10, 0), BAD);
        due("a seventh of no kind", x.person(7, 10, 0), NONE);
        due("count(0)", x.count(0), 6);
    }

    private static void of() {
        promise = "4 of";
        LockedAtDusk x = withGates(10, 20, 5);
        due("of nobody", x.of(0, 0), -1001);
        x.person(0, 7, 8);
        x.person(1, 1, 9);
        x.person(2, 2, 15);
        x.person(3, 3, 22);
        x.person(4, 4, 21);
        x.person(6, 5, 12);
        due("of(6, 0)", x.of(6, 0), -1001);
        due("of(-1, 0)", x.of(-1, 0), -1001);
        due("of(0, 10)", x.of(0, 10), -1001);
        due("of(0, -1)", x.of(0, -1), -1001);
        due("hears: as far as the bell", x.of(0, 7), 1);
        due("hears: one further", x.of(1, 7), 0);
        due("hears: the other way round", x.of(3, 7), 1);
        due("hears: one further the other way round", x.of(4, 7), 0);
        due("goal: the nearest", x.of(0, 9), 0);
        due("goal: of two as near the first", x.of(2, 9), 0);
        due("goal of a tramp: farthest from the keeper, the first", x.of(3, 9), 0);
        due("goal of a told one", x.of(5, 9), 0);
        int[] stepsAtEven = {2, 1, 0, 2, 1, 2};
        for (int i = 0; i < 6; i++) {
            due("steps at 0 of " + i, x.of(i, 8), stepsAtEven[i]);
        }
        x.row(5, 1, 4);
        x.pass(1);
        int[] stepsAtOne = {2, 1, 3, 2, 0, 6};
        for (int i = 0; i < 6; i++) {
            due("steps at 1 of " + i, x.of(i, 8), stepsAtOne[i]);
        }
        due("ears without a dusk", x.of(0, 6), 0);
        duskOf(x, "keen 5 v=7|w=15;deaf 7 k=2;keen 10 m=1;deaf 99 p=5");
        due("ears: those of two together", x.of(0, 6), 15);
        due("ears: less the deaf", x.of(2, 6), 8);
        due("ears below 0", x.of(5, 6), -89);
        due("hears with ears below 0", x.of(5, 7), 0);
        LockedAtDusk y = fresh();
        y.person(5, 0, 0);
        y.person(6, 0, 0);
        due("goal: there are none", y.of(0, 9), NOT_ANY);
        due("goal of a told one: there are none", y.of(1, 9), NOT_ANY);
        due("steps of a running one at 0", y.of(0, 8), 1);
        y.pass(1);
        due("steps of a running one at 1", y.of(0, 8), 4);
        y.pass(2);
        due("steps of a running one at 3", y.of(0, 8), 1);
        LockedAtDusk z = fresh();
        z.person(2, 0, 0);
        z.person(5, 0, 0);
        z.person(4, 0, 0);
        for (int minute = 0; minute < 7; minute++) {
            due("a child at " + minute, z.of(0, 8), minute == 0 || minute == 3 || minute == 6 ? 0 : 3);
            due("a running one at " + minute, z.of(1, 8), minute == 0 || minute == 3 || minute == 6 ? 1 : 4);
            due("a lame one at " + minute, z.of(2, 8), minute == 1 || minute == 3 || minute == 5 ? 0 : 1);
            z.pass(1);
        }
        found();
        ways();
    }

    private static void found() {
        promise = "4 of: found";
        LockedAtDusk x = withGates(3, 8);
        x.person(0, 0, 3);
        x.shut(0, true);
        x.pass(1);
        due("found", x.of(0, 4), 1);
        due("place", x.of(0, 2), 3);
        due("out", x.of(0, 5), 0);
        due("called", x.of(0, 3), 1);
        due("goal: on to the next", x.of(0, 9), 1);
        x.shut(1, true);
        x.pass(3);
        due("found both", x.of(0, 4), 3);
        due("goal: all are found shut", x.of(0, 9), NOT_ANY);
        x.shut(1, false);
        x.pass(1);
        due("it does not try again", x.of(0, 5), 0);
        LockedAtDusk y = withGates(9, 12);
        y.person(3, 0, 12);
        y.call(0, true);
        y.shut(1, true);
        y.pass(1);
        due("a tramp found the farther one", y.of(0, 4), 2);
        due("and goes to the other", y.of(0, 9), 0);
    }

    private static void ways() {
        promise = "terms 1: ways in the ring";
        LockedAtDusk x = withGates(15);
        x.person(0, 0, 0);
        x.pass(1);
        due("alike both ways: upward", x.of(0, 2), 2);
        x.put(0, 29);
        x.call(0, true);
        x.pass(1);
        due("downward", x.of(0, 2), 27);
        x.put(0, 16);
        x.pass(1);
        due("but no further", x.of(0, 2), 15);
        due("out", x.of(0, 5), 1);
        LockedAtDusk y = withGates(28);
        y.person(1, 0, 1);
        y.pass(1);
        due("downward over 0", y.of(0, 2), 0);
        y.pass(1);
        due("downward over 0", y.of(0, 2), 29);
        LockedAtDusk z = withGates(1);
        z.person(1, 0, 29);
        z.pass(1);
        due("upward over 29", z.of(0, 2), 0);
    }

    private static void put() {
        promise = "5 put";
        LockedAtDusk x = withGates(2);
        due("nobody", x.put(0, 30), NONE);
        x.person(0, 0, 1);
        due("place -1", x.put(0, -1), BAD);
        due("place 30", x.put(0, 30), BAD);
        due("put(-1, 0)", x.put(-1, 0), NONE);
        due("put(0, 4)", x.put(0, 4), 1);
        x.pass(1);
        due("out", x.of(0, 5), 1);
        due("put(0, 9)", x.put(0, 9), 2);
        due("not out", x.of(0, 5), 0);
        due("still called", x.of(0, 3), 1);
        due("place", x.of(0, 2), 9);
        x.shut(0, true);
        x.put(0, 2);
        x.pass(1);
        x.put(0, 5);
        due("found stays", x.of(0, 4), 1);
    }

    private static void call() {
        promise = "6 call";
        LockedAtDusk x = withGates(15);
        due("nobody", x.call(0, true), NONE);
        x.person(0, 0, 15);
        due("call(-1)", x.call(-1, true), NONE);
        due("hears nothing so far off", x.of(0, 7), 0);
        x.pass(1);
        due("so it stays", x.of(0, 5), 0);
        due("not called", x.of(0, 3), 0);
        due("call(0, true)", x.call(0, true), 0);
        due("call(0, true)", x.call(0, true), 1);
        x.shut(0, true);
        x.pass(1);
        due("found", x.of(0, 4), 1);
        due("call again: found stays", x.call(0, true), 1);
        due("found", x.of(0, 4), 1);
        due("call(0, false)", x.call(0, false), 1);
        due("found none", x.of(0, 4), 0);
        due("call(0, false)", x.call(0, false), 0);
        due("called", x.of(0, 3), 0);
    }

    private static void shut() {
        promise = "7 shut";
        LockedAtDusk x = withGates(1, 2);
        due("shut(2)", x.shut(2, true), NONE);
        due("shut(-1)", x.shut(-1, true), NONE);
        due("shut(1, true)", x.shut(1, true), 0);
        due("told(5)", x.told(5), 2);
        due("shut(1, true)", x.shut(1, true), 1);
        due("shut(0, true)", x.shut(0, true), 0);
        due("told(5)", x.told(5), 3);
        due("shut(1, false)", x.shut(1, false), 1);
        due("shut(1, false)", x.shut(1, false), 0);
        due("told(5)", x.told(5), 1);
    }

    private static void row() {
        promise = "8 row";
        LockedAtDusk x = fresh();
        due("nobody", x.row(0, 0, 10), NONE);
        x.person(6, 0, 0);
        x.person(3, 0, 0);
        due("part -1", x.row(0, -1, 10), NONE);
        due("part 4", x.row(0, 4, 10), NONE);
        due("n -1", x.row(0, 0, -1), BAD);
        due("n 10", x.row(0, 0, 10), BAD);
        due("another kind", x.row(1, 0, 1), STATE);
        due("another kind, bad", x.row(1, 0, 10), BAD);
        due("another kind, no part", x.row(1, 4, 1), NONE);
        for (int part = 0; part < 4; part++) {
            due("row(0, part, 2 + part)", x.row(0, part, 2 + part), 0);
            due("row(0, part, 6 + part)", x.row(0, part, 6 + part), 2 + part);
        }
        for (int minute = 0; minute < 6; minute++) {
            due("steps at " + minute, x.of(0, 8), 8 + minute % 4);
            x.pass(1);
        }
    }

    private static void round() {
        promise = "9 round";
        LockedAtDusk x = withGates(4, 5);
        due("round(2)", x.round(2), NONE);
        due("round(-2)", x.round(-2), NONE);
        for (int i = 1; i <= 6; i++) {
            due("round(0)", x.round(0), i);
        }
        due("a seventh", x.round(0), FULL);
        due("a seventh of no gate", x.round(2), NONE);
        due("count(3)", x.count(3), 6);
        x.pass(2);
        due("the keeper", x.told(3), 4);
        due("at", x.told(4), 1);
        x.pass(2);
        due("at, a minute each", x.told(4), 3);
        due("round(-1)", x.round(-1), 0);
        due("count(3)", x.count(3), 0);
        due("at", x.told(4), 0);
        due("the keeper", x.told(3), 0);
        due("it stays shut", x.told(5), 1);
        x.round(1);
        x.pass(1);
        due("the keeper", x.told(3), 3);
        x.pass(1);
        due("the keeper, no further", x.told(3), 5);
        due("shut", x.told(5), 3);
        x.pass(5);
        due("done", x.told(4), 1);
        x.round(0);
        x.pass(1);
        due("one more", x.told(4), 2);
    }

    private static void feed() {
        promise = "10 feed";
        LockedAtDusk x = fresh();
        due("feed(-1)", x.feed(-1), BAD);
        due("feed(128)", x.feed(128), BAD);
        due("feed(0)", x.feed(0), 1);
        due("feed(127)", x.feed(127), 2);
        due("count(7)", x.count(7), 2);
        for (int i = 3; i <= 100; i++) {
            due("feed(65)", x.feed(65), i);
        }
        due("a 101st", x.feed(65), FULL);
        due("a bad 101st", x.feed(128), BAD);
        due("count(7)", x.count(7), 100);
        due("dusk()", x.dusk(), -10);
        due("count(7)", x.count(7), 0);
        due("feed(65)", x.feed(65), 1);
    }

    private static void dusk() {
        promise = "11 dusk";
        due("empty", faultOf(""), 0);
        due("bel", faultOf("bel"), 3);
        due("bell", faultOf("bell"), 4);
        due("bell ", faultOf("bell "), 5);
        due("bell x", faultOf("bell x"), 5);
        due("bell  1", faultOf("bell  1"), 5);
        due("bell 123", faultOf("bell 123"), 7);
        due("bell 1 ", faultOf("bell 1 "), 6);
        due("bell 1;", faultOf("bell 1;"), 7);
        due("bell 1; bell 1", faultOf("bell 1; bell 1"), 7);
        due("pale 1", faultOf("pale 1"), 2);
        due("bell5", faultOf("bell5"), 4);
        due("bel 5", faultOf("bel 5"), 3);
        due("keen5 p=1", faultOf("keen5 p=1"), 4);
        due("keen 5p=1", faultOf("keen 5p=1"), 6);
        due("keen 1 !", faultOf("keen 1 !"), 8);
        due("keen 1 !&p=1", faultOf("keen 1 !&p=1"), 8);
        due("keen 1 !;bell 1", faultOf("keen 1 !;bell 1"), 8);
        due("keen 1 =1", faultOf("keen 1 =1"), 7);
        due("keen 1 p1", faultOf("keen 1 p1"), 8);
        due("keel", faultOf("keel"), 3);
        due("Keen", faultOf("Keen 1 p=1"), 0);
        due("keen 1", faultOf("keen 1"), 6);
        due("keen 1;", faultOf("keen 1;"), 6);
        due("keen 1 ", faultOf("keen 1 "), 7);
        due("deaf 1 p", faultOf("deaf 1 p"), 8);
        due("deaf 1 p=", faultOf("deaf 1 p="), 9);
        due("deaf 1 p=123", faultOf("deaf 1 p=123"), 11);
        due("deaf 1 p=1|", faultOf("deaf 1 p=1|"), 11);
        due("deaf 1 p=1&|", faultOf("deaf 1 p=1&|"), 11);
        due("deaf 1 (p=1", faultOf("deaf 1 (p=1"), 11);
        due("deaf 1 (p=1;", faultOf("deaf 1 (p=1;bell 1"), 11);
        due("deaf 1 p=1)", faultOf("deaf 1 p=1)"), 10);
        due("deaf 1 ()", faultOf("deaf 1 ()"), 8);
        due("deaf 1 a=1", faultOf("deaf 1 a=1"), 7);
        due("deaf 1 p!1", faultOf("deaf 1 p!1"), 8);
        due("deaf 1 p= 1", faultOf("deaf 1 p= 1"), 9);
        due("deaf 1 p<=1", faultOf("deaf 1 p<=1"), 9);
        due("five !", faultOf("keen 1 !!!!!p=1"), 11);
        due("five ! and (", faultOf("keen 1 !(!(!p=1))"), 11);
        due("a ( within four", faultOf("keen 1 !(!((p=1)))"), 11);
        due("behind four, not within", faultOf("keen 1 !!!!p=1&!!!!p=1|((((p=1))))&!p=1"), -10);
        due("within one still", faultOf("keen 1 (!!!p=1&!!!!p=1)"), 18);
        String ten = "bell 1;bell 2;bell 3;bell 4;bell 5;bell 6;bell 7;bell 8;bell 9;bell 10";
        due("ten clauses", faultOf(ten), -10);
        due("eleven clauses", faultOf(ten + ";bell 11"), ten.length());
        due("; behind ten", faultOf(ten + ";"), ten.length());
        String hundred = "keen 1 p=1|p=1|p=1|p=1|p=1|p=1|p=1|p=1|p=1|p=1|p=1|p=1|p=1|p=1|p=1|p=1|p=1|p=1|p=1|p=1|p=1|p=1|p=99";
        due("a text of 99", hundred.length(), 99);
        due("a long text", faultOf(hundred), -10);
        due("a full text that ends too early", faultOf(hundred + "|"), 100);
        String full = hundred.replace("keen 1 ", "keen 11 ");
        due("a text of 100", full.length(), 100);
        due("a full text", faultOf(full), -10);
        due("a full text with a fault at its end", faultOf(full.substring(0, 99) + "x"), 99);
        due("a full text that ends with one digit", faultOf(full.replace("keen 11 ", "keen 11 !").replace("99", "9")), -10);
        LockedAtDusk x = fresh();
        due("a number of three digits", duskOf(x, "bell 123"), -17);
        due("a shorter text behind that", duskOf(x, "bell 1"), 0);
        due("its own sign alone", x.told(1), 1);
        holding();
        tests();
        manyDusks();
    }

    private static void holding() {
        promise = "11 dusk: which holds";
        LockedAtDusk x = fresh();
        due("first", duskOf(x, "bell 5;pace 0"), 0);
        due("bell", x.told(1), 5);
        due("pace, 1 if less", x.told(2), 1);
        due("count(7)", x.count(7), 0);
        due("a fault", duskOf(x, "bell 6;pace 7;"), -24);
        due("count(7)", x.count(7), 0);
        due("the one that held holds", x.told(1), 5);
        due("second", duskOf(x, "bell 9;bell 07;pace 99;pace 10"), 1);
        due("the last bell", x.told(1), 7);
        due("pace, 9 if more", x.told(2), 9);
        x.person(0, 0, 0);
        due("a fault behind much", duskOf(x, "bell 5;pace 7;keen 3 p=0;bell"), -39);
        due("third", duskOf(x, "keen 1 p=0"), 2);
        due("nothing of the text with a fault", x.of(0, 6), 1);
        due("bell without", x.told(1), 8);
        due("pace without", x.told(2), 3);
        due("count(2)", x.count(2), 3);
    }

    private static int earsOf(String text, int kind, int v, int place) {
        LockedAtDusk x = fresh();
        x.person(0, 0, 0);
        int one = x.person(kind, v, place);
        x.pass(12);
        if (duskOf(x, text) != 0) {
            return -9999;
        }
        return x.of(one, 6);
    }

    private static void tests() {
        promise = "11 dusk: tests";
        due("p", earsOf("keen 1 p=1;keen 2 p<1;keen 4 p>1;keen 8 p>0;keen 16 p<2", 0, 0, 0), 25);
        due("k", earsOf("keen 1 k=4;keen 2 k<4;keen 4 k>4;keen 8 k>3;keen 16 k<5", 4, 0, 20), 25);
        due("v", earsOf("keen 1 v=9;keen 2 v<9;keen 4 v>9;keen 8 v>8;keen 16 v<10", 0, 9, 20), 25);
        due("w", earsOf("keen 1 w=17;keen 2 w<17;keen 4 w>17;keen 8 w>16;keen 16 w<18", 0, 9, 17), 25);
        due("m at 12", earsOf("keen 1 m=2;keen 2 m<2;keen 4 m>2;keen 8 m>1;keen 16 m=12", 0, 9, 17), 9);
        due("two digits", earsOf("keen 99 w=07", 0, 0, 7), 99);
        due("below 0 is nothing", earsOf("keen 1 p<0", 0, 0, 0), 0);
        due("by 0", earsOf("deaf 0 p=1;keen 0 p=1;keen 00 p=1", 0, 0, 0), 0);
        due("clause by clause", earsOf("keen 1 p=0;keen 2 p=1;deaf 4 p=0;deaf 8 p=1;keen 16 p=1", 0, 0, 0), 10);
        due("& before |", earsOf("keen 1 p=1|p=0&p=0", 0, 0, 0), 1);
        due("& before |", earsOf("keen 1 p=0&p=0|p=1", 0, 0, 0), 1);
        due("( )", earsOf("keen 1 (p=1|p=0)&p=0", 0, 0, 0), 0);
        due("! binds closest", earsOf("keen 1 !p=0|p=1", 0, 0, 0), 1);
        due("! binds closest", earsOf("keen 1 !p=1|p=1", 0, 0, 0), 1);
        due("! of ( )", earsOf("keen 1 !(p=1|p=1)", 0, 0, 0), 0);
        due("!!", earsOf("keen 1 !!p=1", 0, 0, 0), 1);
        due("&", earsOf("keen 1 p=1&k=0&v=3", 0, 3, 0), 1);
        due("&", earsOf("keen 1 p=1&k=1&v=3", 0, 3, 0), 0);
        due("|", earsOf("keen 1 p=0|k=1|v=4", 0, 3, 0), 0);
        due("|", earsOf("keen 1 p=0|k=1|v=3", 0, 3, 0), 1);
        LockedAtDusk x = withGates(0, 0, 0);
        x.person(0, 0, 0);
        x.shut(0, true);
        x.shut(2, true);
        duskOf(x, "keen 1 f=0;keen 2 f=1;keen 4 f=2");
        due("f at first", x.of(0, 6), 1);
        x.pass(1);
        due("f of one", x.of(0, 6), 2);
        x.shut(1, true);
        x.pass(1);
        due("f of two", x.of(0, 6), 4);
    }

    private static void manyDusks() {
        promise = "11 dusk: six at most";
        LockedAtDusk x = fresh();
        for (int i = 0; i < 6; i++) {
            due("dusk " + i, duskOf(x, "bell " + (i + 1)), i);
        }
        due("a seventh", duskOf(x, "bell 99"), FULL);
        due("the text stays", x.count(7), 7);
        due("a seventh that has a fault", duskOf(x, "!"), FULL);
        due("the text stays", x.count(7), 8);
        due("the newest holds", x.told(1), 6);
        due("count(2)", x.count(2), 6);
    }

    private static void told() {
        promise = "12 told";
        LockedAtDusk x = withGates(4, 17);
        due("told(-1)", x.told(-1), NONE);
        due("told(7)", x.told(7), NONE);
        due("told(9)", x.told(9), NONE);
        due("told(12)", x.told(12), NONE);
        due("told(BIG)", x.told(BIG), NONE);
        due("told(SMALL)", x.told(SMALL), NONE);
        due("told(10)", x.told(10), 4);
        due("told(11)", x.told(11), 17);
        x.person(0, 0, 20);
        x.person(0, 0, 3);
        x.round(0);
        duskOf(x, "bell 10;pace 2");
        x.pass(2);
        due("minute", x.told(0), 2);
        due("bell", x.told(1), 10);
        due("pace", x.told(2), 2);
        due("keeper", x.told(3), 4);
        due("at", x.told(4), 1);
        due("shut", x.told(5), 1);
        due("out", x.told(6), 3);
    }

    private static void pass() {
        promise = "13 pass";
        LockedAtDusk x = fresh();
        due("pass(-1)", x.pass(-1), BAD);
        due("pass(61)", x.pass(61), BAD);
        due("pass(0)", x.pass(0), 0);
        for (int i = 1; i <= 166; i++) {
            due("pass(60)", x.pass(60), 60 * i);
        }
        due("above 9999", x.pass(40), STATE);
        due("above 9999, bad", x.pass(61), BAD);
        due("minute", x.told(0), 9960);
        due("9999", x.pass(39), 9999);
        due("above 9999", x.pass(1), STATE);
        due("none", x.pass(0), 9999);
        x.gate(3);
        x.person(0, 0, 0);
        due("asked beyond 9999", x.on(50, 0), 1);
        aheadOfAMinute();
    }

    private static void aheadOfAMinute() {
        promise = "13 pass: by how all is ahead of it";
        LockedAtDusk x = withGates(3);
        x.round(0);
        x.person(0, 0, 3);
        x.person(0, 0, 4);
        x.person(0, 0, 5);
        x.person(0, 0, 6);
        x.person(0, 0, 8);
        x.person(0, 0, 9);
        x.pass(1);
        due("out while it is being shut", x.told(6), 7);
        due("shut", x.told(5), 1);
        due("the last one did not hear", x.of(5, 3), 0);
        due("nor went", x.of(5, 2), 9);
        due("one heard", x.of(4, 3), 1);
        due("and went", x.of(4, 2), 6);
        x.pass(1);
        due("the others found it shut", x.of(3, 4), 1);
        due("now it has heard", x.of(5, 3), 1);
        LockedAtDusk y = fresh();
        y.person(0, 0, 3);
        y.pass(1);
        due("called without a goal", y.of(0, 3), 1);
        due("it stays there", y.of(0, 2), 3);
        LockedAtDusk z = withGates(3, 3);
        z.person(0, 0, 3);
        z.person(2, 0, 3);
        z.pass(1);
        due("one with no steps is there all the same", z.told(6), 3);
    }

    private static LockedAtDusk evenPark() {
        LockedAtDusk x = withGates(6, 20);
        x.round(0);
        x.round(1);
        x.person(0, 0, 0);
        x.person(1, 0, 4);
        x.person(0, 0, 15);
        return x;
    }

    private static void on() {
        promise = "14 on";
        LockedAtDusk x = evenPark();
        due("what -1", x.on(100, -1), NONE);
        due("what 3", x.on(0, 3), NONE);
        due("what 9", x.on(0, 9), NONE);
        due("what 13", x.on(0, 13), NONE);
        due("what 19", x.on(0, 19), NONE);
        due("what 23", x.on(0, 23), NONE);
        due("what BIG", x.on(0, BIG), NONE);
        due("what SMALL", x.on(0, SMALL), NONE);
        due("n -1", x.on(-1, 0), BAD);
        due("n 100", x.on(100, 22), BAD);
        due("now", x.on(0, 0), 0);
        due("place now", x.on(0, 10), 0);
        due("place of the last", x.on(0, 12), 15);
        due("found by the last", x.on(0, 22), 0);
        due("place behind 1", x.on(1, 10), 2);
        due("place behind 3", x.on(3, 10), 6);
        due("shut behind 1", x.on(1, 1), 0);
        due("shut behind 2", x.on(2, 1), 1);
        due("keeper behind 1", x.on(1, 2), 3);
        due("keeper behind 3", x.on(3, 2), 9);
        due("out behind 2", x.on(2, 0), 2);
        due("found behind 3", x.on(3, 20), 1);
        due("the first gives up gate 0 and goes to 1", x.on(4, 10), 8);
        due("shut behind 7", x.on(7, 1), 3);
        due("nothing has changed", x.told(0), 0);
        due("nothing has changed", x.of(0, 2), 0);
        due("nothing has changed", x.told(5), 0);
    }

    private static void clear() {
        promise = "15 clear";
        due("nobody", fresh().clear(), 0);
        LockedAtDusk x = withGates(6);
        x.person(0, 0, 0);
        due("clear()", x.clear(), 3);
        x.person(1, 0, 1);
        due("clear()", x.clear(), 5);
        x.pass(2);
        due("clear()", x.clear(), 3);
        x.pass(3);
        due("all are out", x.clear(), 0);
        x.person(0, 0, 15);
        due("one never hears", x.clear(), NOT_ANY);
        LockedAtDusk y = withGates(15);
        y.person(1, 0, 14);
        y.person(1, 0, 15);
        duskOf(y, "keen 99 m=9&p=1;bell 0");
        due("m is 9 first behind 9", y.on(10, 0), 2);
        y.call(0, true);
        due("clear()", y.clear(), 10);
        LockedAtDusk z = withGates(15);
        z.person(4, 0, 1);
        z.call(0, true);
        due("a lame one", z.clear(), 27);
        ninetyNine();
    }

    /**
     * A lame one at 13 that hears in minute 65 alone: the keeper goes to and fro between 0 and 13 and is there in minutes
     * 13, 39 and 65. It finds gate 0 shut then, gate 1 (at 0) behind 13 steps, in minutes 66 .. 90, and the others at 26
     * behind four more, in minutes 92 .. 98.
     */
    private static LockedAtDusk longWalk(boolean oneMore) {
        LockedAtDusk x = withGates(13, 0, 26, 26);
        for (int turn = 0; turn < 3; turn++) {
            x.round(0);
            x.round(1);
        }
        duskOf(x, "bell 0;pace 1;deaf 99 !m=5");
        x.person(4, 0, 13);
        x.shut(2, oneMore);
        return x;
    }

    private static void ninetyNine() {
        LockedAtDusk x = longWalk(false);
        due("behind 98", x.on(98, 0), 0);
        due("behind 99", x.on(99, 0), 1);
        due("clear()", x.clear(), 99);
        LockedAtDusk y = longWalk(true);
        due("one more gate is shut: not by then", y.clear(), NOT_ANY);
        y.pass(1);
        due("a minute later", y.clear(), 99);
    }

    private static void stay() {
        promise = "16 stay";
        due("nobody", fresh().stay(), 0);
        LockedAtDusk x = withGates(6);
        x.person(0, 0, 0);
        x.person(0, 0, 15);
        x.person(0, 0, 9);
        due("stay()", x.stay(), 6);
        x.call(2, true);
        due("stay()", x.stay(), 2);
        x.shut(0, true);
        due("stay()", x.stay(), 7);
        due("nothing has changed", x.told(0), 0);
        due("out behind 99", longWalk(false).stay(), 0);
        LockedAtDusk long100 = longWalk(true);
        due("out behind 100", long100.stay(), 1);
        long100.pass(1);
        due("a minute later", long100.stay(), 0);
        LockedAtDusk none = fresh();
        for (int i = 0; i < 6; i++) {
            none.person(0, 0, 0);
        }
        due("no gate", none.stay(), 63);
    }

    private static void bestFirst() {
        promise = "17 best: first";
        due("no round", fresh().best(0), NOT_ANY);
        LockedAtDusk x = withGates(3, 12);
        x.person(0, 0, 9);
        x.call(0, true);
        x.round(1);
        x.round(0);
        // Gate 1 first: the keeper is at 12 behind 4 (3, 6, 9, 12), the person there behind 2.
        due("both alike: the first", x.best(0), 0);
        x.put(0, 22);
        // To 12 it takes 5; to 3 (the way is 11) longer. By 1 first all is shut; by 0 first gate 1 is shut behind 4.
        due("left", x.best(5), 1);
        x.put(0, 20);
        due("left", x.best(5), 0);
        LockedAtDusk y = withGates(27, 9);
        y.person(1, 0, 14);
        y.call(0, true);
        y.round(1);
        y.round(0);
        // It is at 9 in minute 4. As it is, 9 is shut in minute 2 and 27 in minute 6; with 27 first, 9 in minute 4.
        due("left as it is", y.best(5), 1);
        due("first", y.best(0), 1);
        y.pass(1);
        due("from 3 on", y.best(0), 1);
        LockedAtDusk z = withGates(2, 5);
        z.person(1, 0, 8);
        z.call(0, true);
        z.round(0);
        z.round(1);
        z.pass(1);
        due("at", z.told(4), 1);
        due("as it goes on, gate 1 is shut too early", z.best(5), 1);
        // With AT 0 the keeper stays at gate 0 for minute 1 and shuts gate 1 in minute 2, when the person is there.
        due("at is 0 for that", z.best(0), 0);
        due("at has not changed", z.told(4), 1);
        firstChanges();
        firstOfFour();
    }

    /** Six gates near to one another, the keeper a minute at each; the old one is at gate 5 in a minute by its place. */
    private static LockedAtDusk nearGates(int place, int... round) {
        LockedAtDusk x = withGates(0, 1, 2, 3, 4, 5);
        duskOf(x, "pace 9");
        for (int gate = 0; gate < 5; gate++) {
            x.shut(gate, true);
        }
        x.person(1, 0, place);
        x.call(0, true);
        for (int gate : round) {
            x.round(gate);
        }
        return x;
    }

    private static void firstOfFour() {
        // Gate 5 is shut in minute 3 if it is the last of four: the first is there then, the other when all is shut.
        LockedAtDusk x = nearGates(9, 1, 0, 5, 2);
        x.person(1, 0, 18);
        x.call(1, true);
        x.shut(1, false);
        due("left", x.best(5), 2);
        due("first", x.best(0), 3);
        due("the last of three", nearGates(8, 0, 5, 1).best(0), 2);
        due("the last already", nearGates(8, 0, 1, 5).best(0), 0);
    }

    private static void firstChanges() {
        LockedAtDusk x = withGates(3, 12, 20);
        x.person(0, 0, 26);
        x.call(0, true);
        x.shut(0, true);
        x.round(2);
        x.round(0);
        x.round(1);
        // Nearest to 26 is 20 (3 minutes); the keeper is at 20 behind 4 at once: out all the same.
        due("first", x.best(0), 0);
        x.put(0, 28);
        // Way to 3 is 5 (3 minutes), found shut; then to 12 (9: 5 minutes): there behind 8, or 20.
        // Round 2, 0, 1: 20 behind 4, 3 behind 9 (13: 5 minutes), 12 behind 12: out behind 8.
        due("first", x.best(0), 0);
        LockedAtDusk y = withGates(3, 12, 20);
        y.person(0, 0, 28);
        y.call(0, true);
        y.shut(0, true);
        y.round(1);
        y.round(2);
        y.round(0);
        // 1 first: 12 shut behind 4, 20 behind 7: it finds 3 behind 3, 12 behind 8, 20 behind 12: in.
        // 2 first: 20 behind 4, 3 behind 9, 12 behind 12: out behind 8.
        due("left as it is", y.best(5), 1);
        due("first", y.best(0), 1);
        due("left has not changed", y.best(5), 1);
    }

    /** An old one that is at 9 in minute 4; 4 is shut all the while. */
    private static LockedAtDusk threeGates(int... round) {
        LockedAtDusk x = withGates(27, 9, 4);
        x.shut(2, true);
        x.person(1, 0, 14);
        x.call(0, true);
        for (int gate : round) {
            x.round(gate);
        }
        return x;
    }

    private static void bestSwap() {
        promise = "17 best: swap";
        due("no round", fresh().best(1), NOT_ANY);
        due("one alone", threeGates(1).best(1), NOT_ANY);
        // As it is, 9 is shut in minute 2, and 27 in minute 6. By 0 and 1, or 0 and 2, 9 is shut in minute 4 or later.
        LockedAtDusk y = threeGates(1, 0, 2);
        due("left", y.best(5), 1);
        due("of several the first", y.best(1), 1);
        due("left has not changed", y.best(5), 1);
        y.put(0, 10);
        due("none is left", y.best(5), 0);
        due("not less than it is", y.best(1), NOT_ANY);
        LockedAtDusk alone = threeGates(1);
        alone.shut(0, true);
        due("one alone is left", alone.best(5), 1);
        due("one alone, and nothing to change it with", alone.best(1), NOT_ANY);
        due("like gates", threeGates(1, 1).best(1), NOT_ANY);
        // Gate 5, the fifth, is shut in minute 4, and the person there in minute 5: it must be the sixth.
        due("4 and 5", nearGates(11, 0, 1, 2, 3, 5, 4).best(1), 45);
        due("3 and 4", nearGates(10, 0, 1, 2, 5, 3).best(1), 34);
        due("0 and 2", threeGates(1, 1, 0).best(1), 2);
        LockedAtDusk x = threeGates(0, 1, 2);
        x.pass(1);
        x.put(0, 15);
        due("at", x.told(4), 1);
        // 9 is shut in minute 4, and the person there in minute 6. By 0 and 1 he is done with 9, which he has not shut.
        due("left", x.best(5), 1);
        due("at stays: 0 and 1", x.best(1), 1);
        oneAndTwo();
    }

    private static void oneAndTwo() {
        LockedAtDusk z = withGates(6, 9, 3);
        z.person(1, 0, 13);
        z.call(0, true);
        z.round(0);
        z.round(1);
        z.round(2);
        // Gate 1 is shut behind 3; the person is there behind 4, goes on to 6 and 3. With 1 and 2 swapped: 6 behind 2,
        // 3 behind 3, 9 behind 5: out behind 4. With 0 and 1 swapped: 9 behind 3. With 0 and 2: 3, 6, 9: behind 3.
        due("left", z.best(5), 1);
        due("1 and 2", z.best(1), 12);
    }

    private static void bestQuick() {
        promise = "17 best: quick";
        due("nobody", fresh().best(2), 1);
        LockedAtDusk x = withGates(9);
        x.person(1, 0, 14);
        x.round(0);
        x.call(0, true);
        // At 9 in minute 4; by pace 1 it is shut in minute 8, by pace 2 in minute 4.
        due("the least of several", x.best(2), 1);
        // It hears if the keeper stands where it is, in a minute that ends in a digit.
        LockedAtDusk y = withGates(15, 6);
        y.person(0, 0, 6);
        y.round(0);
        duskOf(y, "bell 0;deaf 99 !m=2");
        due("6 in minute 2 by pace 3", y.best(2), 3);
        due("that is its pace", y.best(5), 0);
        duskOf(y, "bell 0;deaf 99 !m=2;pace 2");
        due("another pace", y.best(5), 1);
        due("6 in minute 2 by pace 3", y.best(2), 3);
        due("the pace has not changed", y.told(2), 2);
        duskOf(y, "bell 0;deaf 99 !m=1");
        y.put(0, 9);
        due("9 in minute 1 by pace 9", y.best(2), 9);
        y.put(0, 8);
        due("8 in minute 1 by pace 8", y.best(2), 8);
        y.put(0, 10);
        due("10 in minute 1 by none", y.best(2), 1);
        LockedAtDusk z = fresh();
        for (int i = 0; i < 6; i++) {
            z.person(0, 0, 0);
        }
        due("six are left", z.best(5), 6);
        due("quick, all the same", z.best(2), 1);
        due("wait, all the same", z.best(3), 0);
    }

    private static void bestWait() {
        promise = "17 best: wait";
        due("nobody", fresh().best(3), 0);
        LockedAtDusk x = withGates(9);
        x.person(1, 0, 14);
        x.round(0);
        x.call(0, true);
        // The keeper is there behind 3 and more, the person behind 5 finds it open if it is shut in minute 5 at the earliest.
        due("left", x.best(5), 1);
        due("wait", x.best(3), 2);
        x.put(0, 9);
        due("the fewest", x.best(3), 0);
        x.put(0, 24);
        due("the person is there behind 15", x.best(3), 12);
        LockedAtDusk y = withGates(0);
        y.person(1, 0, 15);
        y.round(0);
        y.call(0, true);
        due("14 is enough", y.best(3), 14);
        LockedAtDusk z = withGates(0);
        z.person(1, 0, 15);
        z.round(0);
        duskOf(z, "bell 0;keen 15 m=1");
        due("15 is the most", z.best(3), 15);
        duskOf(z, "bell 0;keen 15 m=2");
        due("16 would be needed", z.best(3), 0);
    }

    private static void bestOpen() {
        promise = "17 best: open";
        due("no gate", fresh().best(4), NOT_ANY);
        LockedAtDusk x = withGates(9, 20);
        x.person(1, 0, 14);
        x.round(0);
        x.round(1);
        x.call(0, true);
        due("left", x.best(5), 1);
        due("of several the first", x.best(4), 0);
        x.put(0, 9);
        due("not less than it is", x.best(4), NOT_ANY);
        x.put(0, 14);
        x.best(4);
        due("what is asked then is as told", x.on(60, 1), 3);
        LockedAtDusk y = withGates(9, 20, 11);
        y.person(1, 0, 17);
        y.round(0);
        y.shut(0, true);
        y.shut(1, true);
        y.shut(2, true);
        y.call(0, true);
        y.pass(3);
        due("found 20", y.of(0, 4), 2);
        due("shut now, and by the keeper", y.best(4), 0);
        y.pass(9);
        due("found 11 as well", y.of(0, 4), 6);
        due("what is found shut stays so", y.best(4), 0);
        y.pass(2);
        due("found all", y.of(0, 4), 7);
        due("none", y.best(4), NOT_ANY);
        due("shut as they were", y.told(5), 7);
        LockedAtDusk z = withGates(9, 20);
        z.shut(0, true);
        z.shut(1, true);
        z.person(0, 0, 9);
        z.call(0, true);
        z.pass(1);
        z.person(0, 0, 14);
        z.call(1, true);
        // The first has found gate 0 shut: gate 0 is good for the other alone, gate 1 for both.
        due("left", z.best(5), 2);
        due("the least of all", z.best(4), 1);
        passesBy();
    }

    private static void passesBy() {
        promise = "17 best: open, he comes by all the same";
        LockedAtDusk x = withGates(3, 12);
        duskOf(x, "pace 6");
        x.person(1, 0, 3);
        x.shut(0, true);
        x.pass(1);
        due("the first found gate 0", x.of(0, 4), 1);
        x.shut(0, false);
        x.put(0, 15);
        x.person(1, 0, 5);
        x.call(1, true);
        x.round(0);
        x.round(1);
        // By 3 the keeper is at 12 in the third minute, as the first one is; were he to go there at once, in the second.
        due("left", x.best(5), 1);
        due("open", x.best(4), 0);
    }

    private static void bestLeft() {
        promise = "17 best: left";
        due("nobody", fresh().best(5), 0);
        due("what -1", fresh().best(-1), NONE);
        due("what 6", fresh().best(6), NONE);
        LockedAtDusk x = evenPark();
        x.person(0, 0, 0);
        x.shut(0, true);
        x.shut(1, true);
        due("all", x.best(5), 4);
        x.shut(0, false);
        x.shut(1, false);
        due("two come to both too late", x.best(5), 2);
        LockedAtDusk y = longWalk(false);
        y.pass(38);
        due("out behind 61", y.best(5), 1);
        y.pass(1);
        due("out behind 60", y.best(5), 0);
        due("nothing has changed", y.told(0), 39);
    }

    private static void hides() {
        promise = "18 hides";
        LockedAtDusk x = fresh();
        due("nobody", x.hides(0), NONE);
        x.person(0, 0, 0);
        due("-1", x.hides(-1), NONE);
        due("no gate: everywhere", x.hides(0), (1 << 30) - 1);
        x.gate(0);
        // The bell is heard at 22 .. 8; elsewhere it hides: 9 .. 21.
        int far = 0;
        for (int place = 9; place <= 21; place++) {
            far |= 1 << place;
        }
        due("where the bell is not heard", x.hides(0), far);
        x.call(0, true);
        due("called: nowhere", x.hides(0), 0);
        x.pass(1);
        due("out", x.of(0, 5), 1);
        due("as if it were not out", x.hides(0), 0);
        x.call(0, false);
        due("out, not called", x.hides(0), far);
        due("still out", x.of(0, 5), 1);
        for (int i = 1; i < 6; i++) {
            x.person(i, 0, 0);
        }
        due("six people", x.hides(5), far);
        LockedAtDusk y = withGates(0);
        y.person(4, 0, 3);
        y.person(0, 0, 0);
        y.call(0, true);
        // Behind 30: 15 steps in minutes 0, 2 .. 28: even from 15 it is out.
        due("thirty minutes are just enough", y.hides(0), 0);
        y.pass(1);
        due("the other is out", y.told(6), 2);
        // Minutes 1 .. 30: steps in 2, 4 .. 30: fifteen.
        due("still enough", y.hides(0), 0);
        y.gate(15);
        y.shut(1, true);
        // From 8 .. 22 it finds 15 shut first, and has 15 more to go; at 15 it finds so in minute 1, which costs no step.
        int between = 0;
        for (int place = 8; place <= 22; place++) {
            between |= place == 15 ? 0 : 1 << place;
        }
        due("shut on the way", y.hides(0), between);
        y.gate(0);
        y.shut(0, true);
        due("31 minutes are too many", y.hides(0), between | 1 << 15);
    }

    private static void see() {
        promise = "19 see";
        LockedAtDusk x = fresh();
        due("nobody", x.see(0, true, 21), NONE);
        x.person(0, 0, 0);
        due("n -1", x.see(0, true, -1), BAD);
        due("n 21", x.see(0, true, 21), BAD);
        due("person -2", x.see(-2, true, 0), NONE);
        for (int i = 1; i <= 5; i++) {
            due("see", x.see(0, true, 20), i);
        }
        due("a sixth", x.see(0, true, 0), FULL);
        due("a sixth, bad", x.see(0, true, 21), BAD);
        due("a sixth, nobody", x.see(1, true, 0), NONE);
        due("count(4)", x.count(4), 5);
        due("none then", x.see(-1, true, 99), 0);
        due("count(4)", x.count(4), 0);
        due("see", x.see(0, false, 0), 1);
    }

    private static void where() {
        promise = "20 where";
        LockedAtDusk x = withGates(10);
        due("nobody", x.where(0, 0), NONE);
        x.person(0, 0, 10);
        x.person(1, 0, 13);
        x.call(0, true);
        due("what 2", x.where(0, 2), NONE);
        due("what -1", x.where(0, -1), NONE);
        due("nothing seen", x.where(0, 0), 30);
        due("nothing seen: the least", x.where(0, 1), 0);
        x.see(0, true, 2);
        // By 2 steps a minute: 6 .. 14.
        due("out behind 2", x.where(0, 0), 9);
        due("the least", x.where(0, 1), 6);
        x.see(0, false, 1);
        // Not within 2: 6, 7, 13, 14.
        due("not out behind 1", x.where(0, 0), 4);
        due("the least", x.where(0, 1), 6);
        x.see(1, false, 20);
        due("another's that is so", x.where(0, 0), 4);
        x.call(1, true);
        due("another's that is not so", x.where(0, 0), 0);
        due("none", x.where(0, 1), NOT_ANY);
        x.see(-1, true, 0);
        x.see(0, true, 0);
        due("were it there, it would not be out", x.where(0, 0), 0);
        x.put(0, 10);
        x.pass(1);
        due("out", x.of(0, 5), 1);
        due("were it there, it would not be out", x.where(0, 0), 0);
        x.see(-1, true, 0);
        x.see(0, false, 0);
        due("nor is it", x.where(0, 0), 30);
        x.see(0, true, 20);
        due("behind 20", x.where(0, 0), 30);
        x.see(0, true, 20);
        x.see(0, true, 20);
        x.see(0, false, 0);
        due("five seen", x.where(0, 0), 30);
        due("still out", x.of(0, 5), 1);
        due("where it was", x.of(0, 2), 10);
    }

    private static void can() {
        promise = "21 can";
        LockedAtDusk x = withGates(15);
        due("nobody", x.can(0, 0), NONE);
        x.person(0, 5, 15);
        x.person(0, 9, 15);
        duskOf(x, "keen 9 v>3&v<6;keen 20 v=8");
        due("what 2", x.can(0, 2), NONE);
        due("what -1", x.can(0, -1), NONE);
        due("nothing seen", x.can(0, 0), 10);
        due("nothing seen: the least", x.can(0, 1), 0);
        x.see(0, true, 1);
        due("it heard", x.can(0, 0), 3);
        due("the least", x.can(0, 1), 4);
        due("its v stays", x.of(0, 1), 5);
        due("the other's v does not matter to the first", x.can(1, 0), 10);
        x.see(1, true, 1);
        due("the other is not out", x.can(0, 0), 0);
        due("none", x.can(0, 1), NOT_ANY);
        due("were it 4, 5 or 8", x.can(1, 0), 3);
        x.pass(1);
        due("out", x.of(0, 5), 1);
        x.see(-1, true, 0);
        x.see(0, true, 0);
        due("it is out by any v", x.can(0, 0), 10);
    }

    private static void odds() {
        promise = "22 odds";
        LockedAtDusk x = withGates(15);
        due("nobody", x.odds(3, 0), NO);
        x.person(0, 0, 15);
        due("n -1", x.odds(-1, 0), NO);
        due("n 100", x.odds(100, 0), NO);
        due("part 2", x.odds(1, 2), NO);
        due("part -1", x.odds(1, -1), NO);
        due("1 of 1", x.odds(1, 0), 1);
        due("1 of 1", x.odds(1, 1), 1);
        due("behind 0: 0 of 1", x.odds(0, 0), 0);
        due("behind 0: 0 of 1", x.odds(0, 1), 1);
        due("not called by that", x.of(0, 3), 0);
        x.person(0, 0, 13);
        due("both must be called", x.odds(9, 0), 0);
        due("0 over 1", x.odds(9, 1), 1);
        x.call(0, true);
        due("one of two", x.odds(9, 0), 1);
        due("one of two", x.odds(9, 1), 2);
        x.person(0, 0, 15);
        x.person(0, 0, 15);
        x.call(2, true);
        x.call(3, true);
        due("one of four", x.odds(9, 1), 4);
        x.call(1, true);
        due("four of four", x.odds(99, 0), 1);
        due("four of four", x.odds(99, 1), 1);
        LockedAtDusk y = withGates(3);
        for (int i = 0; i < 6; i++) {
            y.person(0, 0, 3);
        }
        duskOf(y, "bell 8;pace 3;deaf 99 p<2");
        due("two do not hear", y.odds(5, 0), 0);
        y.call(0, true);
        due("one of six", y.odds(5, 0), 1);
        due("one of six", y.odds(5, 1), 6);
        y.pass(2);
        due("out", y.told(6), 61);
        due("one of all, the out as well", y.odds(5, 1), 6);
    }

    private static void mean() {
        promise = "23 mean";
        LockedAtDusk x = withGates(6);
        due("nobody", x.mean(3, 0), 0);
        due("nobody", x.mean(3, 1), 1);
        x.person(0, 0, 0);
        due("n 0", x.mean(0, 0), NO);
        due("n 61", x.mean(61, 0), NO);
        due("part 2", x.mean(1, 2), NO);
        due("part -1", x.mean(1, -1), NO);
        // Out behind 3, 4 ..
        due("behind 1", x.mean(1, 0), 0);
        due("behind 1", x.mean(1, 1), 1);
        due("none yet", x.mean(2, 0), 0);
        due("none yet", x.mean(2, 1), 1);
        due("one third", x.mean(3, 0), 1);
        due("one third", x.mean(3, 1), 3);
        due("2 of 4", x.mean(4, 0), 1);
        due("2 of 4", x.mean(4, 1), 2);
        due("58 of 60", x.mean(60, 0), 29);
        due("58 of 60", x.mean(60, 1), 30);
        x.person(0, 0, 6);
        // The other is out behind 1, 2, 3.
        due("4 by 3", x.mean(3, 0), 4);
        due("4 by 3", x.mean(3, 1), 3);
        due("nothing has changed", x.told(0), 0);
        due("nothing has changed", x.told(6), 0);
    }

    private static void evening() {
        promise = "24 evening";
        LockedAtDusk x = withGates(0);
        due("what 4", x.evening(4, 0), NONE);
        due("what -2", x.evening(-2, 0), NONE);
        due("gate 1 by 1", x.evening(1, 1), NONE);
        due("gate 1 by 2", x.evening(2, 1), NONE);
        due("gate -1 by 2", x.evening(2, -1), NONE);
        due("person 0 by 3", x.evening(3, 0), NONE);
        x.person(0, 0, 0);
        due("person -1 by 3", x.evening(3, -1), NONE);
        due("a minute", x.evening(0, BIG), 1);
        due("gate 0", x.evening(1, 0), 2);
        due("gate 0", x.evening(2, 0), 3);
        due("person 0", x.evening(3, 0), 4);
        for (int i = 5; i <= 10; i++) {
            due("a minute", x.evening(0, -1), i);
        }
        due("an eleventh", x.evening(0, 0), FULL);
        due("an eleventh of no gate", x.evening(1, 1), NONE);
        due("count(5)", x.count(5), 10);
        due("empty then", x.evening(-1, 99), 0);
        due("count(5)", x.count(5), 0);
    }

    private static void gone() {
        promise = "25 gone";
        LockedAtDusk x = withGates(15, 14);
        due("what 2", x.gone(2), NONE);
        due("what -1", x.gone(-1), NONE);
        x.person(0, 0, 15);
        x.person(0, 0, 14);
        x.shut(1, true);
        due("nothing goes", x.gone(0), 0);
        due("nothing goes", x.gone(1), 2);
        x.evening(0, 0);
        due("nobody hears", x.gone(0), 0);
        x.evening(3, 0);
        due("called, but no minute behind that", x.gone(0), 0);
        x.evening(0, 0);
        due("the first is out", x.gone(0), 1);
        x.evening(3, 1);
        x.evening(1, 1);
        due("gate 1 is open", x.gone(1), 0);
        x.evening(0, 0);
        due("both are out", x.gone(0), 3);
        x.evening(2, 0);
        due("gate 0 is shut", x.gone(1), 1);
        due("nothing has changed", x.told(0), 0);
        due("nothing has changed", x.told(5), 2);
        due("nothing has changed", x.of(0, 3), 0);
        x.evening(-1, 0);
        x.evening(2, 0);
        x.evening(3, 0);
        x.evening(0, 0);
        x.evening(1, 0);
        due("row by row", x.gone(0), 0);
        due("row by row", x.gone(1), 2);
    }

    private static void book() {
        promise = "26 book";
        LockedAtDusk x = fresh();
        due("nobody", x.book(0, 30), NONE);
        x.person(0, 0, 4);
        due("place 30", x.book(0, 30), BAD);
        due("place -1", x.book(0, -1), BAD);
        due("person -2", x.book(-2, 0), NONE);
        for (int i = 1; i <= 8; i++) {
            due("book", x.book(0, 4), i);
        }
        due("a ninth", x.book(0, 0), FULL);
        due("a ninth, bad", x.book(0, 30), BAD);
        due("a ninth, nobody", x.book(1, 0), NONE);
        due("count(6)", x.count(6), 8);
        due("empty then", x.book(-1, 30), 0);
        due("count(6)", x.count(6), 0);
    }

    private static void looked() {
        promise = "27 looked";
        LockedAtDusk x = withGates(6);
        due("no book", x.looked(), NOT_ANY);
        x.person(0, 0, 4);
        x.person(0, 0, 6);
        x.book(1, 6);
        x.book(0, 4);
        x.book(1, 6);
        due("all are there", x.looked(), NOT_ANY);
        x.put(0, 2);
        due("row 1", x.looked(), 1);
        x.put(1, 0);
        due("the first", x.looked(), 0);
        x.put(1, 6);
        x.put(0, 4);
        x.pass(1);
        due("the first one walked on", x.looked(), 1);
        due("out", x.told(6), 3);
        x.put(0, 4);
        due("out, but there", x.looked(), NOT_ANY);
    }

    private static void judge() {
        promise = "28 judge";
        LockedAtDusk x = fresh();
        due("no tape", x.judge(6, 0), NONE);
        due("no tape", x.judge(-1, 0), NONE);
        due("nobody, nothing", x.judge(0, -1), NOT_ANY);
        x.tape(1, 1, 5);
        due("shorts, nobody", x.judge(1, 0), CAST);
        x.tape(2, 0, 0);
        due("nobody, no items", x.judge(2, 5), NOT_ANY);
        x.person(0, 0, 4);
        due("one, place -1", x.judge(2, -1), 100);
        x.person(0, 0, 0);
        x.person(0, 0, 29);
        due("it holds nothing", x.judge(0, 0), 100);
        due("shorts", x.judge(1, -1), CAST);
        due("booleans", x.tape(1, 4, 5) == 1 ? x.judge(1, 0) : 0, CAST);
        x.tape(0, 0, 5);
        x.item(0, 1, 4);
        x.item(0, 2, 0);
        x.item(0, 3, 29);
        due("all", x.judge(0, 1), NOT_ANY);
        due("place -1", x.judge(0, -1), 100);
        due("place SMALL", x.judge(0, SMALL), 100);
        due("place BIG", x.judge(0, BIG), 100);
        due("place 5", x.judge(0, 5), 100);
        due("the first is otherwise", x.judge(0, 0), 0);
        x.item(0, 3, 28);
        due("the third is otherwise", x.judge(0, 1), 2);
        x.item(0, 2, 256);
        due("a byte has eight bits", x.judge(0, 1), 2);
        x.item(0, 2, 1);
        due("the second is otherwise", x.judge(0, 1), 1);
        x.item(0, 3, 4);
        x.item(0, 4, 0);
        due("the row ends", x.judge(0, 3), 102);
        x.item(0, 4, 3);
        due("otherwise ahead of the end", x.judge(0, 3), 1);
        x.item(0, 4, 4);
        due("one looked at", x.judge(0, 4), 101);
    }

    private static void image() {
        promise = "29 image";
        LockedAtDusk x = fresh();
        due("nobody", x.image(), 0);
        x.person(0, 0, 0);
        due("undo()", x.undo(), 0);
        due("count(0)", x.count(0), 0);
        x.person(0, 0, 0);
        x.person(0, 0, 0);
        due("two", x.image(), 2);
        due("two are there still", x.count(0), 2);
    }

    private static void undo() {
        promise = "30 undo";
        LockedAtDusk x = withGates(5, 10);
        due("there is none", x.undo(), STATE);
        x.person(6, 3, 7);
        x.person(0, 3, 1);
        x.row(0, 2, 8);
        x.round(1);
        x.round(0);
        duskOf(x, "bell 7;pace 2");
        x.shut(0, true);
        x.see(0, true, 3);
        x.see(0, true, 3);
        x.evening(3, 1);
        x.book(1, 1);
        x.pass(2);
        due("image()", x.image(), 2);
        long before = digest(x);
        x.gate(3);
        x.person(0, 0, 0);
        x.row(0, 2, 1);
        x.put(1, 20);
        x.call(1, false);
        x.round(1);
        x.pass(5);
        x.shut(0, false);
        x.see(-1, false, 0);
        x.see(1, false, 1);
        x.evening(-1, 0);
        x.evening(0, 0);
        x.book(-1, 0);
        duskOf(x, "bell 9");
        x.feed(65);
        x.tape(3, 0, 4);
        x.act(0, 0, 1);
        due("it is otherwise", digest(x) == before ? 1 : 0, 0);
        due("undo()", x.undo(), 2);
        due("all is as it was", digest(x), before);
        due("gates", x.count(1), 2);
        due("the dusk that held holds", x.told(1), 7);
        due("the dusks stay", x.count(2), 2);
        due("the text stays", x.count(7), 1);
        due("the tape stays", x.read(3, 3), 0);
        due("the trace stays", x.count(8), 2);
        due("its row", x.row(0, 2, 8), 8);
        x.pass(3);
        due("once more", x.undo(), 2);
        due("all is as it was", digest(x), before);
        x.dusk();
        due("a third dusk", duskOf(x, "bell 4"), 2);
        due("holds", x.told(1), 4);
        x.undo();
        due("the first one holds again", x.told(1), 7);
        x.round(-1);
        x.image();
        x.round(0);
        x.undo();
        due("the newer image", x.count(3), 0);
        undoToNoDusk();
        undoRows();
        undoTwice();
    }

    private static void undoRows() {
        LockedAtDusk x = withGates(9, 9, 9);
        x.person(0, 0, 5);
        x.person(0, 0, 6);
        x.evening(2, 1);
        x.evening(2, 2);
        x.book(0, 5);
        x.book(1, 6);
        x.see(0, true, 0);
        x.see(1, false, 4);
        x.image();
        x.evening(-1, 0);
        x.evening(2, 0);
        x.evening(1, 1);
        x.book(-1, 0);
        x.book(1, 5);
        x.see(-1, true, 0);
        x.see(1, false, 1);
        due("the evening", x.gone(1), 1);
        due("the book", x.looked(), 0);
        due("seen", x.where(0, 0), 30);
        x.undo();
        due("the evening as it was", x.gone(1), 6);
        due("the book as it was", x.looked(), NOT_ANY);
        due("seen as it was", x.where(0, 0), 0);
        x.see(-1, true, 0);
        x.see(1, true, 4);
        x.undo();
        x.put(1, 0);
        due("the book's second row", x.looked(), 1);
        due("count(4)", x.count(4), 2);
    }

    private static void undoTwice() {
        LockedAtDusk x = withGates(3);
        x.image();
        x.shut(0, true);
        x.person(0, 0, 3);
        x.pass(1);
        due("found", x.of(0, 4), 1);
        x.undo();
        x.person(0, 0, 9);
        due("one that comes then has found none", x.of(0, 4), 0);
        x.undo();
        x.person(0, 0, 3);
        x.pass(1);
        due("out", x.of(0, 5), 1);
        x.undo();
        x.person(0, 0, 9);
        due("one that comes then is not out", x.of(0, 5), 0);
    }

    private static void undoToNoDusk() {
        LockedAtDusk x = fresh();
        x.person(2, 0, 0);
        x.image();
        duskOf(x, "bell 3;pace 7;keen 5 p=0");
        due("ears", x.of(0, 6), 5);
        x.undo();
        due("no dusk holds", x.told(1), 8);
        due("no dusk holds", x.told(2), 3);
        due("no ears", x.of(0, 6), 0);
        due("the dusks stay", x.count(2), 1);
        LockedAtDusk y = fresh();
        y.image();
        y.gate(3);
        y.shut(0, true);
        y.person(6, 0, 0);
        y.row(0, 0, 5);
        y.call(0, true);
        y.undo();
        y.gate(4);
        y.person(6, 0, 0);
        due("a gate that comes then is not shut", y.told(5), 0);
        due("a person that comes then is not called", y.of(0, 3), 0);
        due("and has a row of its own", y.row(0, 0, 0), 0);
    }

    private static long digest(LockedAtDusk x) {
        long sum = 17;
        for (int what = 0; what < 16; what++) {
            sum = sum * 31 + x.told(what);
        }
        for (int person = 0; person < 3; person++) {
            for (int what = 0; what < 10; what++) {
                sum = sum * 31 + x.of(person, what);
            }
        }
        for (int what : new int[] {0, 1, 3, 4, 5, 6}) {
            sum = sum * 31 + x.count(what);
        }
        for (int n = 0; n < 12; n += 3) {
            sum = sum * 31 + x.on(n, 10);
            sum = sum * 31 + x.on(n, 1);
        }
        sum = sum * 31 + x.where(0, 0);
        sum = sum * 31 + x.gone(0);
        return sum * 31 + x.looked();
    }

    private static void act() {
        promise = "31 act";
        LockedAtDusk x = fresh();
        due("nobody", x.act(0, 0, 5), 0);
        // v is 3 for all; numbers 0 .. 5 with kinds 0 .. 5.
        for (int kind = 0; kind < 6; kind++) {
            x.person(kind, 3, 0);
        }
        due("person waits", x.act(0, 0, 7), 7);
        due("person walks", x.act(0, 1, 7), 4);
        due("person tells", x.act(0, 2, 7), 8);
        due("old waits: 7 + 1", x.act(1, 0, 7), 8);
        due("old walks: (8 - 3) ^ 6", x.act(1, 1, 7), 3);
        due("old tells", x.act(1, 2, 7), 6);
        due("child waits: 21 + 2", x.act(2, 0, 7), 23);
        due("child walks", x.act(2, 1, 7), 20);
        due("child tells", x.act(2, 2, 7), 40);
        due("tramp waits", x.act(3, 0, 7), 10);
        due("tramp walks", x.act(3, 1, 7), 7);
        due("tramp tells: 14 + (1 + 3 - 3)", x.act(3, 2, 7), 15);
        due("lame waits: -(7 + 4)", x.act(4, 0, 7), -11);
        due("lame walks: (-(8 + 4) - 3) ^ 6", x.act(4, 1, 7), -15 ^ 6);
        due("lame tells", x.act(4, 2, 7), (-15 ^ 6) * 2);
        due("running waits: 21 + 5", x.act(5, 0, 7), 26);
        due("running walks", x.act(5, 1, 7), 23);
        due("running tells: by 2: 6 + 5 - 3, twice", x.act(5, 2, 7), 16);
        due("act 3", x.act(0, 3, 7), 0);
        due("act -1", x.act(0, -1, 7), 0);
        due("person 6", x.act(6, 0, 7), 0);
        due("person -1", x.act(-1, 0, 7), 0);
        LockedAtDusk y = fresh();
        y.person(1, 0, 0);
        y.person(6, 5, 0);
        due("told waits: (7 + 1) ^ 5", y.act(1, 0, 7), 13);
        due("told walks: (13 - 5) + (2 + 1)", y.act(1, 1, 7), 11);
        // walks(1): ((1 + 1) ^ 5) - 5 + 3 = 7 - 5 + 3.
        due("told tells: 11 * 2 + 5", y.act(1, 2, 7), 27);
        due("wrapping", y.act(1, 0, BIG), SMALL ^ 5);
        due("wrapping", x.act(2, 0, BIG), BIG * 3 + 2);
        due("wrapping", x.act(0, 2, SMALL), (SMALL - 3) * 2);
        due("wrapping", x.act(4, 0, SMALL - 4), SMALL);
    }

    private static void dueTrace(LockedAtDusk x, int person, int act, int... bodies) {
        x.act(person, act, 5);
        due("count(8) of " + person + ", " + act, x.count(8), bodies.length);
        for (int i = 0; i < bodies.length; i++) {
            due("trace(" + i + ") of " + person + ", " + act, x.trace(i), bodies[i]);
        }
        due("trace behind all", x.trace(bodies.length), NONE);
    }

    private static void trace() {
        promise = "32 trace";
        LockedAtDusk x = fresh();
        due("none", x.trace(0), NONE);
        for (int kind = 1; kind < 7; kind++) {
            x.person(kind, 3, 0);
        }
        int old = 0, child = 1, tramp = 2, lame = 3, running = 4, told = 5;
        dueTrace(x, old, 0, 10);
        dueTrace(x, old, 1, 20, 11, 10);
        dueTrace(x, old, 2, 12, 20, 11, 10);
        dueTrace(x, child, 0, 30, 10);
        dueTrace(x, child, 2, 12, 11, 30, 10);
        dueTrace(x, tramp, 2, 40, 12, 11, 10, 11, 10);
        dueTrace(x, lame, 0, 50, 10);
        dueTrace(x, lame, 1, 51, 20, 11, 50, 10);
        dueTrace(x, lame, 2, 12, 51, 20, 11, 50, 10);
        dueTrace(x, running, 0, 30, 10);
        dueTrace(x, running, 1, 11, 30, 10);
        dueTrace(x, running, 2, 60, 12, 11, 30, 10);
        dueTrace(x, told, 0, 71, 10);
        dueTrace(x, told, 1, 70, 11, 71, 10, 10);
        dueTrace(x, told, 2, 40, 12, 70, 11, 71, 10, 10, 70, 11, 71, 10, 10);
        due("trace(-1)", x.trace(-1), NONE);
        due("trace(BIG)", x.trace(BIG), NONE);
        x.act(6, 0, 0);
        due("no trace then", x.trace(0), NONE);
        due("no trace then", x.count(8), 0);
        x.act(0, 0, 0);
        x.act(0, 3, 0);
        due("no trace then", x.trace(0), NONE);
    }

    private static void taken() {
        promise = "33 taken";
        LockedAtDusk x = fresh();
        due("k 7", x.taken(0, 7), BAD);
        due("k -1", x.taken(0, -1), BAD);
        due("nobody", x.taken(0, 0), NOTHING);
        int[][] above = {{0}, {0, 1}, {0, 2}, {0, 3}, {0, 1, 4}, {0, 2, 5}, {0, 3, 6}};
        for (int kind = 0; kind < 7; kind++) {
            LockedAtDusk y = fresh();
            y.person(kind, 0, 0);
            for (int k = 0; k < 7; k++) {
                boolean is = false;
                for (int a : above[kind]) {
                    is |= a == k;
                }
                due("kind " + kind + " taken for " + k, y.taken(0, k), is ? kind : CAST);
            }
            due("person 1", y.taken(1, 0), NOTHING);
            due("person -1", y.taken(-1, 0), NOTHING);
            due("k 7", y.taken(-1, 7), BAD);
        }
    }

    private static void count() {
        promise = "34 count";
        LockedAtDusk x = withGates(1, 2, 3);
        due("count(9)", x.count(9), BAD);
        due("count(-1)", x.count(-1), BAD);
        x.person(2, 0, 0);
        x.person(0, 0, 0);
        duskOf(x, "bell 1");
        duskOf(x, "bell 1;");
        for (int i = 0; i < 4; i++) {
            x.round(1);
        }
        for (int i = 0; i < 5; i++) {
            x.see(0, true, 0);
        }
        for (int i = 0; i < 6; i++) {
            x.evening(0, 0);
        }
        for (int i = 0; i < 7; i++) {
            x.book(0, 0);
        }
        for (int i = 0; i < 8; i++) {
            x.feed(1);
        }
        x.act(0, 2, 1);
        int[] want = {2, 3, 1, 4, 5, 6, 7, 8, 4};
        for (int what = 0; what < 9; what++) {
            due("count(" + what + ")", x.count(what), want[what]);
        }
    }

    private static void tape() {
        promise = "35 tape";
        LockedAtDusk x = fresh();
        due("tape 6", x.tape(6, 9, 99), NONE);
        due("tape -1", x.tape(-1, 0, 1), NONE);
        due("sort 5", x.tape(0, 5, -1), BAD);
        due("sort -2", x.tape(0, -2, 1), BAD);
        due("n 61", x.tape(0, 0, 61), BAD);
        due("n -1", x.tape(0, 0, -1), SIZE);
        due("n SMALL", x.tape(0, 4, SMALL), SIZE);
        due("it holds nothing", x.item(0, 0, 1), NOTHING);
        due("n 60", x.tape(0, 0, 60), 1);
        due("its last", x.read(0, 59), 0);
        due("no further", x.read(0, 60), NO);
        x.item(0, 3, 9);
        due("refused", x.tape(0, 0, -1), SIZE);
        due("so it stays", x.read(0, 3), 9);
        due("anew", x.tape(0, 3, 5), 1);
        due("all 0", x.read(0, 3), 0);
        due("shorter", x.read(0, 5), NO);
        due("n 0", x.tape(0, 2, 0), 1);
        due("no item", x.item(0, 0, 1), PLACE);
        due("nothing, n does not matter", x.tape(0, -1, -1), 1);
        due("nothing, n does not matter", x.tape(0, -1, 61), 1);
        due("nothing", x.item(0, 0, 1), NOTHING);
        due("nothing", x.read(0, 0), NO);
        x.tape(0, 0, 2);
        x.item(0, 0, 7);
        x.item(0, 1, 7);
        x.tape(0, 0, 2);
        due("all 0, the first", x.read(0, 0), 0);
        due("all 0, the second", x.read(0, 1), 0);
        due("another", x.tape(5, 1, 3), 1);
        due("another", x.read(5, 2), 0);
    }

    private static void item() {
        promise = "36 item";
        LockedAtDusk x = fresh();
        due("tape 6", x.item(6, 0, 1), NONE);
        due("tape -1", x.item(-1, 0, 1), NONE);
        due("nothing", x.item(0, 99, 1), NOTHING);
        long v = 0x123456789ABCDEF0L;
        long[] want = {(byte) v, (short) v, (int) v, v, 1};
        for (int sort = 0; sort < 5; sort++) {
            x.tape(sort, sort, 3);
            due("place 3", x.item(sort, 3, 1), PLACE);
            due("place -1", x.item(sort, -1, 1), PLACE);
            due("item", x.item(sort, 2, v), 1);
            due("read of sort " + sort, x.read(sort, 2), want[sort]);
            due("another", x.read(sort, 1), 0);
            x.item(sort, 2, -1);
            due("-1 of sort " + sort, x.read(sort, 2), sort == 4 ? 1 : -1);
            x.item(sort, 2, 0);
            due("0 of sort " + sort, x.read(sort, 2), 0);
            x.item(sort, 0, 1L << 40);
            due("2 to the 40th of sort " + sort, x.read(sort, 0), sort == 4 ? 1 : sort == 3 ? 1L << 40 : 0);
        }
    }

    private static void read() {
        promise = "37 read";
        LockedAtDusk x = fresh();
        due("tape 6", x.read(6, 0), NO);
        due("tape -1", x.read(-1, 0), NO);
        due("nothing", x.read(0, 0), NO);
        x.tape(0, 3, 2);
        due("place -1", x.read(0, -1), NO);
        due("place 2", x.read(0, 2), NO);
        due("place SMALL", x.read(0, SMALL), NO);
        due("place BIG", x.read(0, BIG), NO);
        x.item(0, 1, Long.MAX_VALUE);
        due("item", x.read(0, 1), Long.MAX_VALUE);
        due("item", x.read(0, 0), 0);
    }

    private static void shift() {
        promise = "38 shift";
        LockedAtDusk x = fresh();
        due("tape 6", x.shift(6, 0, 0, 0, 0), NONE);
        due("other 6", x.shift(0, 0, 6, 0, 0), NONE);
        due("tape -1", x.shift(-1, 0, 0, 0, 0), NONE);
        due("other -1", x.shift(0, 0, -1, 0, 0), NONE);
        x.tape(0, 0, 5);
        due("other is nothing", x.shift(0, -1, 1, 0, 1), NOTHING);
        due("it is nothing", x.shift(1, 0, 0, 0, 1), NOTHING);
        x.tape(1, 1, 5);
        due("unlike", x.shift(0, -1, 1, 0, 1), CAST);
        x.tape(1, 0, 4);
        due("n -1", x.shift(0, 0, 1, 0, -1), PLACE);
        due("i -1", x.shift(0, -1, 1, 0, 1), PLACE);
        due("j -1", x.shift(0, 0, 1, -1, 1), PLACE);
        due("beyond its end", x.shift(0, 5, 1, 0, 1), PLACE);
        due("beyond the other's end", x.shift(0, 0, 1, 0, 5), PLACE);
        due("BIG", x.shift(0, BIG, 1, 0, BIG), PLACE);
        due("BIG", x.shift(0, 1, 1, 1, BIG), PLACE);
        due("SMALL", x.shift(0, SMALL, 1, SMALL, SMALL), PLACE);
        due("none, at both ends", x.shift(0, 5, 1, 4, 0), 0);
        due("none, beyond an end", x.shift(0, 6, 1, 4, 0), PLACE);
        for (int i = 0; i < 5; i++) {
            x.item(0, i, i + 1);
        }
        due("shift", x.shift(0, 1, 1, 0, 4), 4);
        dueItems(x, 1, 2, 3, 4, 5);
        dueItems(x, 0, 1, 2, 3, 4, 5);
        due("the same, up", x.shift(0, 0, 0, 1, 4), 4);
        dueItems(x, 0, 1, 1, 2, 3, 4);
        due("the same, down", x.shift(0, 2, 0, 0, 3), 3);
        dueItems(x, 0, 2, 3, 4, 3, 4);
    }

    private static void dueItems(LockedAtDusk x, int tape, long... items) {
        for (int i = 0; i < items.length; i++) {
            due("item " + i, x.read(tape, i), items[i]);
        }
    }
}
