import java.util.ArrayList;
import java.util.Arrays;
import java.util.List;
import java.util.regex.Matcher;
import java.util.regex.Pattern;

// Many runs of mixed calls, each answer compared with that of a second model, written as plainly as the document's words:
// texts are read by rewriting them, places are walked one by one, acts are real overridden methods, tapes real arrays.
public final class ModelTests {
    private static final int RUNS = 4000, CALLS = 120;
    private static long state = 20261118L;
    private static int wrong = 0;

    public static void main(String[] args) {
        checkFaults();
        long calls = 0;
        for (int run = 0; run < RUNS && wrong == 0; run++) {
            calls += new Run(run).go();
        }
        System.out.println(wrong == 0 ? calls + " calls answer as the model does" : "an answer is not the model's");
        if (wrong != 0) {
            System.exit(1);
        }
    }

    /** The same numbers in every run of this program. */
    private static int pick(int below) {
        state = state * 6364136223846793005L + 1442695040888963407L;
        return (int) ((state >>> 33) % below);
    }

    private static int pick(int from, int to) {
        return from + pick(to - from + 1);
    }

    private static int mostly(int from, int to) {
        int which = pick(12);
        if (which > 0) {
            return pick(from, to);
        }
        int[] odd = {from - 1, to + 1, from - 2, Integer.MAX_VALUE, Integer.MIN_VALUE};
        return odd[pick(pick(4) == 0 ? 5 : 2)];
    }

    // ---- texts

    private static String clause() {
        switch (pick(6)) {
            case 0: return "bell " + pick(24);
            case 1: return "pace " + pick(12);
            case 2: return "deaf " + pick(16) + " " + either(0);
            default: return "keen " + pick(16) + " " + either(0);
        }
    }

    private static String either(int within) {
        String text = both(within);
        return pick(4) == 0 ? text + "|" + both(within) : text;
    }

    private static String both(int within) {
        String text = part(within);
        return pick(4) == 0 ? text + "&" + part(within) : text;
    }

    private static String part(int within) {
        // One level too many now and then.
        if (within < 5 && pick(3) == 0) {
            return pick(2) == 0 ? "!" + part(within + 1) : "(" + either(within + 1) + ")";
        }
        char letter = "pkvwfm".charAt(pick(6));
        int most = letter == 'w' ? 31 : letter == 'p' || letter == 'k' || letter == 'f' ? 6 : 10;
        int n = pick(most);
        return "" + letter + "<=>".charAt(pick(3)) + (n < 10 && pick(5) == 0 ? "0" : "") + n;
    }

    private static String text() {
        StringBuilder text = new StringBuilder();
        int clauses = pick(8) == 0 ? pick(9, 11) : pick(1, 4);
        for (int i = 0; i < clauses; i++) {
            text.append(i > 0 ? ";" : "").append(clauses > 8 ? "bell " + pick(30) : clause());
        }
        if (pick(3) == 0) {
            int at = pick(text.length() + 1);
            String sign = "" + "kendafblpc 0123456789!()&|<=>;vwmx".charAt(pick(34));
            switch (pick(3)) {
                case 0: text.insert(at, sign); break;
                case 1: text.setLength(at); break;
                default: text.replace(at, Math.min(at + 1, text.length()), sign); break;
            }
        }
        if (text.length() > 100) {
            text.setLength(100);
        }
        return text.toString();
    }

    private static void checkFaults() {
        for (int i = 0; i < 20000 && wrong == 0; i++) {
            String text = text();
            LockedAtDusk x = new LockedAtDusk();
            for (int k = 0; k < text.length(); k++) {
                x.feed(text.charAt(k));
            }
            int fault = Texts.fault(text);
            int want = fault < 0 ? 0 : -10 - fault;
            int got = x.dusk();
            if (got != want) {
                wrong++;
                System.out.println("dusk of \"" + text + "\" answered " + got + ", the model " + want);
            }
        }
    }

    /** What a dusk is and what it says, by rewriting its text. */
    private static final class Texts {
        private static final Pattern EARS = Pattern.compile("(keen|deaf) (\\d\\d?) (.+)");
        private static final Pattern NUMBER = Pattern.compile("(bell|pace) (\\d\\d?)");
        private static final Pattern TEST = Pattern.compile("([pkvwfm])([<=>])(\\d\\d?)(?!\\d)");
        private static final List<String> ENDS = ends();

        private static List<String> ends() {
            List<String> ends = new ArrayList<>();
            for (String whole : new String[] {"keen 1 p=1", "deaf 1 p=1", "bell 1", "pace 1"}) {
                for (int i = 0; i <= whole.length(); i++) {
                    for (String close : new String[] {"", ")", "))", ")))", "))))"}) {
                        ends.add(whole.substring(i) + close);
                    }
                }
            }
            return ends;
        }

        /** -1: none. Else the least place up to which, and with it, no text that is a dusk begins so. */
        static int fault(String text) {
            if (isDusk(text)) {
                return -1;
            }
            for (int i = 0; i < text.length(); i++) {
                boolean begins = false;
                for (int e = 0; e < ENDS.size() && !begins; e++) {
                    begins = isDusk(text.substring(0, i + 1) + ENDS.get(e));
                }
                if (!begins) {
                    return i;
                }
            }
            return text.length();
        }

        private static boolean isDusk(String text) {
            String[] clauses = text.split(";", -1);
            if (clauses.length > 10) {
                return false;
            }
            for (String clause : clauses) {
                Matcher ears = EARS.matcher(clause);
                if (!NUMBER.matcher(clause).matches() && !(ears.matches() && isExpression(ears.group(3)))) {
                    return false;
                }
            }
            return true;
        }

        /** Each part becomes a letter by how deep it goes: a has no ( or !, e has four within one another. */
        private static boolean isExpression(String text) {
            if (text.matches(".*[a-e].*")) {
                return false;
            }
            String s = TEST.matcher(text).replaceAll("a");
            for (int i = 0; i < 200; i++) {
                Matcher deeper = Pattern.compile("!([a-d])").matcher(s);
                Matcher closed = Pattern.compile("\\(([a-d])\\)").matcher(s);
                Matcher joined = Pattern.compile("([a-e])[&|]([a-e])").matcher(s);
                if (deeper.find()) {
                    s = s.substring(0, deeper.start()) + (char) (deeper.group(1).charAt(0) + 1) + s.substring(deeper.end());
                } else if (closed.find()) {
                    s = s.substring(0, closed.start()) + (char) (closed.group(1).charAt(0) + 1) + s.substring(closed.end());
                } else if (joined.find()) {
                    char most = (char) Math.max(joined.group(1).charAt(0), joined.group(2).charAt(0));
                    s = s.substring(0, joined.start()) + most + s.substring(joined.end());
                } else {
                    break;
                }
            }
            return s.matches("[a-e]");
        }

        static int last(String text, String word, int without) {
            int last = without;
            for (String clause : text.split(";")) {
                if (clause.startsWith(word)) {
                    last = Integer.parseInt(clause.substring(5));
                }
            }
            return last;
        }

        static int ears(String text, World world, Someone one) {
            int ears = 0;
            for (String clause : text.split(";")) {
                Matcher matcher = EARS.matcher(clause);
                if (matcher.matches() && holds(matcher.group(3), world, one)) {
                    int n = Integer.parseInt(matcher.group(2));
                    ears += matcher.group(1).equals("keen") ? n : -n;
                }
            }
            return ears;
        }

        private static boolean holds(String text, World world, Someone one) {
            Matcher test = TEST.matcher(text);
            String s = test.replaceAll(t -> isSo(t.group(1), t.group(2), Integer.parseInt(t.group(3)), world, one) ? "Y" : "N");
            for (int i = 0; i < 200 && s.length() > 1; i++) {
                String before = s;
                s = s.replace("!Y", "n").replace("!N", "y").replace("n", "N").replace("y", "Y");
                if (s.equals(before)) {
                    s = s.replace("(Y)", "Y").replace("(N)", "N");
                }
                if (s.equals(before)) {
                    s = s.replaceFirst("Y&Y", "Y").replaceFirst("Y&N|N&Y|N&N", "N");
                }
                if (s.equals(before)) {
                    s = s.replaceFirst("(?<!&)N\\|N(?!&)", "N");
                }
                if (s.equals(before)) {
                    s = s.replaceFirst("(?<!&)(Y\\|Y|Y\\|N|N\\|Y)(?!&)", "Y");
                }
            }
            return s.equals("Y");
        }

        private static boolean isSo(String letter, String sign, int n, World world, Someone one) {
            int is;
            switch (letter) {
                case "p": is = one.number; break;
                case "k": is = one.kind; break;
                case "v": is = one.v; break;
                case "w": is = one.place; break;
                case "f": is = one.found.size(); break;
                default: is = world.minute % 10; break;
            }
            return sign.equals("<") ? is < n : sign.equals("=") ? is == n : is > n;
        }
    }

    // ---- people

    private static class Someone {
        int number, kind, v, place;
        boolean called, out;
        List<Integer> found = new ArrayList<>();
        int[] row = new int[4];

        Someone copy() {
            Someone one = new Someone();
            one.number = number;
            one.kind = kind;
            one.v = v;
            one.place = place;
            one.called = called;
            one.out = out;
            one.found.addAll(found);
            one.row = row.clone();
            return one;
        }

        int foundBits() {
            int bits = 0;
            for (int gate : found) {
                bits |= 1 << gate;
            }
            return bits;
        }

        boolean isTramp() {
            return kind == 3 || kind == 6;
        }
    }

    private static class Plain {
        final List<Integer> trace;
        final int i, v;

        Plain(Someone one, List<Integer> trace) {
            this.trace = trace;
            i = one.number;
            v = one.v;
        }

        int waits(int x) { trace.add(10); return x + i; }
        int walks(int x) { trace.add(11); return waits(x) - v; }
        int tells(int x) { trace.add(12); return walks(x) * 2; }
    }

    private static class Old extends Plain {
        Old(Someone one, List<Integer> trace) { super(one, trace); }
        @Override int walks(int x) { trace.add(20); return super.walks(x) ^ 6; }
    }

    private static class Child extends Plain {
        Child(Someone one, List<Integer> trace) { super(one, trace); }
        @Override int waits(int x) { trace.add(30); return super.waits(x * 3); }
    }

    private static class Tramp extends Plain {
        Tramp(Someone one, List<Integer> trace) { super(one, trace); }
        @Override int tells(int x) { trace.add(40); return super.tells(x) + walks(1); }
    }

    private static class Lame extends Old {
        Lame(Someone one, List<Integer> trace) { super(one, trace); }
        @Override int waits(int x) { trace.add(50); return -super.waits(x); }
        @Override int walks(int x) { trace.add(51); return super.walks(x + 1); }
    }

    private static class Running extends Child {
        Running(Someone one, List<Integer> trace) { super(one, trace); }
        @Override int tells(int x) { trace.add(60); return super.tells(x - i); }
    }

    private static class Told extends Tramp {
        Told(Someone one, List<Integer> trace) { super(one, trace); }
        @Override int walks(int x) { trace.add(70); return super.walks(x) + super.waits(2); }
        @Override int waits(int x) { trace.add(71); return super.waits(x) ^ v; }
    }

    private static Plain actor(Someone one, List<Integer> trace) {
        switch (one.kind) {
            case 0: return new Plain(one, trace);
            case 1: return new Old(one, trace);
            case 2: return new Child(one, trace);
            case 3: return new Tramp(one, trace);
            case 4: return new Lame(one, trace);
            case 5: return new Running(one, trace);
            default: return new Told(one, trace);
        }
    }

    private static boolean isTakenFor(Plain actor, int k) {
        switch (k) {
            case 0: return true;
            case 1: return actor instanceof Old;
            case 2: return actor instanceof Child;
            case 3: return actor instanceof Tramp;
            case 4: return actor instanceof Lame;
            case 5: return actor instanceof Running;
            default: return actor instanceof Told;
        }
    }

    // ---- how all is, and how a minute goes

    private static final class World {
        List<Integer> gates = new ArrayList<>();
        List<Boolean> shut = new ArrayList<>();
        List<Someone> people = new ArrayList<>();
        List<Integer> round = new ArrayList<>();
        List<int[]> seen = new ArrayList<>(), evening = new ArrayList<>(), book = new ArrayList<>();
        int keeper, at, minute;
        String dusk = "";
        int pace = -1, wait = 0, open = -1;

        World copy() {
            World w = new World();
            w.gates.addAll(gates);
            w.shut.addAll(shut);
            for (Someone one : people) {
                w.people.add(one.copy());
            }
            w.round.addAll(round);
            w.seen.addAll(seen);
            w.evening.addAll(evening);
            w.book.addAll(book);
            w.keeper = keeper;
            w.at = at;
            w.minute = minute;
            w.dusk = dusk;
            return w;
        }

        int bell() {
            return Texts.last(dusk, "bell", 8);
        }

        int pace() {
            return pace > 0 ? pace : Math.max(1, Math.min(9, Texts.last(dusk, "pace", 3)));
        }

        static int way(int a, int b) {
            int far = Math.abs(a - b);
            return far > 15 ? 30 - far : far;
        }

        static int step(int from, int to) {
            if (from == to) {
                return from;
            }
            int up = (from + 1) % 30;
            int down = (from + 29) % 30;
            // Half way round both neighbours are alike: upward.
            return way(up, to) <= way(down, to) ? up : down;
        }

        static int walk(int from, int to, int steps) {
            int place = from;
            for (int i = 0; i < steps; i++) {
                place = step(place, to);
            }
            return place;
        }

        boolean hears(Someone one) {
            return way(one.place, keeper) <= bell() + Texts.ears(dusk, this, one);
        }

        int steps(Someone one) {
            int child = minute % 3 == 0 ? 0 : 3;
            int[] byKind = {2, 1, child, 2, minute % 2 != 0 ? 0 : 1, child + 1, 2 + one.row[minute % 4]};
            return byKind[one.kind];
        }

        int goal(Someone one) {
            int goal = -5;
            for (int g = gates.size() - 1; g >= 0; g--) {
                if (!one.found.contains(g)) {
                    if (goal < 0) {
                        goal = g;
                    } else if (one.isTramp() ? way(keeper, gates.get(g)) >= way(keeper, gates.get(goal))
                            : way(one.place, gates.get(g)) <= way(one.place, gates.get(goal))) {
                        goal = g;
                    }
                }
            }
            return goal;
        }

        void go(int minutes) {
            for (int i = 0; i < minutes; i++) {
                goOne();
            }
        }

        private void goOne() {
            World ahead = copy();
            for (int p = 0; p < people.size(); p++) {
                Someone was = ahead.people.get(p);
                Someone one = people.get(p);
                if (was.out || !was.called && !ahead.hears(was)) {
                    continue;
                }
                one.called = true;
                int goal = ahead.goal(was);
                if (goal < 0) {
                    continue;
                }
                one.place = walk(was.place, gates.get(goal), ahead.steps(was));
                if (one.place == gates.get(goal)) {
                    if (ahead.shut.get(goal)) {
                        one.found.add(goal);
                    } else {
                        one.out = true;
                    }
                }
            }
            if (wait > 0) {
                wait--;
            } else if (at < round.size()) {
                int gate = round.get(at);
                keeper = walk(keeper, gates.get(gate), pace());
                if (keeper == gates.get(gate)) {
                    shut.set(gate, gate != open);
                    at++;
                }
            }
            minute++;
        }

        int outBits() {
            int bits = 0;
            for (Someone one : people) {
                bits |= one.out ? 1 << one.number : 0;
            }
            return bits;
        }

        int outCount() {
            return Integer.bitCount(outBits());
        }

        int shutBits() {
            int bits = 0;
            for (int g = 0; g < gates.size(); g++) {
                bits |= shut.get(g) ? 1 << g : 0;
            }
            return bits;
        }

        World later(int minutes) {
            World w = copy();
            w.pace = pace;
            w.wait = wait;
            w.open = open;
            w.go(minutes);
            return w;
        }

        int left() {
            return people.size() - later(60).outCount();
        }

        boolean isAsSeen() {
            for (int[] s : seen) {
                if (later(s[2]).people.get(s[0]).out != (s[1] == 1)) {
                    return false;
                }
            }
            return true;
        }
    }

    // ---- the second model

    private static final class Model {
        World now = new World();
        World image = null;
        StringBuilder text = new StringBuilder();
        List<String> dusks = new ArrayList<>();
        List<Integer> trace = new ArrayList<>();
        Object[] tapes = new Object[6];

        boolean nobody(int p) {
            return p < 0 || p >= now.people.size();
        }

        boolean noGate(int g) {
            return g < 0 || g >= now.gates.size();
        }

        static boolean out(int n, int from, int to) {
            return n < from || n > to;
        }

        int gate(int place) {
            if (out(place, 0, 29)) return -2;
            if (now.gates.size() == 6) return -4;
            now.gates.add(place);
            now.shut.add(false);
            return now.gates.size() - 1;
        }

        int person(int kind, int v, int place) {
            if (out(kind, 0, 6)) return -1;
            if (out(v, 0, 9) || out(place, 0, 29)) return -2;
            if (now.people.size() == 6) return -4;
            Someone one = new Someone();
            one.number = now.people.size();
            one.kind = kind;
            one.v = v;
            one.place = place;
            now.people.add(one);
            return one.number;
        }

        int of(int p, int what) {
            if (nobody(p) || out(what, 0, 9)) return -1001;
            Someone one = now.people.get(p);
            int[] all = {one.kind, one.v, one.place, one.called ? 1 : 0, one.foundBits(), one.out ? 1 : 0,
                Texts.ears(now.dusk, now, one), now.hears(one) ? 1 : 0, now.steps(one), now.goal(one)};
            return all[what];
        }

        int put(int p, int place) {
            if (nobody(p)) return -1;
            if (out(place, 0, 29)) return -2;
            Someone one = now.people.get(p);
            int was = one.place;
            one.place = place;
            one.out = false;
            return was;
        }

        int call(int p, boolean is) {
            if (nobody(p)) return -1;
            Someone one = now.people.get(p);
            int was = one.called ? 1 : 0;
            one.called = is;
            if (!is) one.found.clear();
            return was;
        }

        int shut(int g, boolean is) {
            if (noGate(g)) return -1;
            return now.shut.set(g, is) ? 1 : 0;
        }

        int row(int p, int part, int n) {
            if (nobody(p) || out(part, 0, 3)) return -1;
            if (out(n, 0, 9)) return -2;
            if (now.people.get(p).kind != 6) return -3;
            int was = now.people.get(p).row[part];
            now.people.get(p).row[part] = n;
            return was;
        }

        int round(int g) {
            if (g == -1) {
                now.round.clear();
                now.at = 0;
                now.keeper = 0;
                return 0;
            }
            if (noGate(g)) return -1;
            if (now.round.size() == 6) return -4;
            now.round.add(g);
            return now.round.size();
        }

        int feed(int sign) {
            if (out(sign, 0, 127)) return -2;
            if (text.length() == 100) return -4;
            text.append((char) sign);
            return text.length();
        }

        int dusk() {
            if (dusks.size() == 6) return -4;
            String read = text.toString();
            text.setLength(0);
            int fault = Texts.fault(read);
            if (fault >= 0) return -10 - fault;
            dusks.add(read);
            now.dusk = read;
            return dusks.size() - 1;
        }

        int told(int what) {
            int[] all = {now.minute, now.bell(), now.pace(), now.keeper, now.at, now.shutBits(), now.outBits()};
            if (!out(what, 0, 6)) return all[what];
            return out(what, 10, 9 + now.gates.size()) ? -1 : now.gates.get(what - 10);
        }

        int pass(int n) {
            if (out(n, 0, 60)) return -2;
            if (now.minute + n > 9999) return -3;
            now.go(n);
            return now.minute;
        }

        int on(int n, int what) {
            int people = now.people.size();
            boolean known = !out(what, 0, 2) || !out(what, 10, 9 + people) || !out(what, 20, 19 + people);
            if (!known) return -1;
            if (out(n, 0, 99)) return -2;
            World w = now.later(n);
            if (what >= 20) return w.people.get(what - 20).foundBits();
            if (what >= 10) return w.people.get(what - 10).place;
            return what == 0 ? w.outBits() : what == 1 ? w.shutBits() : w.keeper;
        }

        int clear() {
            World w = now.copy();
            for (int n = 0; n < 100; n++) {
                if (w.outCount() == w.people.size()) return n;
                w.go(1);
            }
            return -5;
        }

        int stay() {
            return (1 << now.people.size()) - 1 - now.later(99).outBits();
        }

        int best(int what) {
            if (out(what, 0, 5)) return -1;
            int is = now.left();
            if (what == 5) return is;
            List<int[]> tried = new ArrayList<>();
            for (int a = 0; a < 16; a++) {
                World w = now.copy();
                if (what == 0 && a < w.round.size()) {
                    w.round.clear();
                    w.round.addAll(now.round.subList(a, now.round.size()));
                    w.round.addAll(now.round.subList(0, a));
                    w.at = 0;
                    tried.add(new int[] {a, w.left()});
                } else if (what == 1) {
                    for (int b = a + 1; b < now.round.size(); b++) {
                        w = now.copy();
                        w.round.set(a, now.round.get(b));
                        w.round.set(b, now.round.get(a));
                        tried.add(new int[] {10 * a + b, w.left()});
                    }
                } else if (what == 2 && a >= 1 && a <= 9) {
                    w.pace = a;
                    tried.add(new int[] {a, w.left()});
                } else if (what == 3) {
                    w.wait = a;
                    tried.add(new int[] {a, w.left()});
                } else if (what == 4 && a < w.gates.size()) {
                    w.shut.set(a, false);
                    w.open = a;
                    tried.add(new int[] {a, w.left()});
                }
            }
            int least = what == 1 || what == 4 ? is : 99;
            int best = -5;
            for (int[] t : tried) {
                if (t[1] < least) {
                    best = t[0];
                    least = t[1];
                }
            }
            return best;
        }

        int hides(int p) {
            if (nobody(p)) return -1;
            int bits = 0;
            for (int place = 0; place < 30; place++) {
                World w = now.copy();
                w.people.get(p).place = place;
                w.people.get(p).out = false;
                w.go(30);
                bits += w.people.get(p).out ? 0 : 1 << place;
            }
            return bits;
        }

        int see(int p, boolean isOut, int n) {
            if (p == -1) {
                now.seen.clear();
                return 0;
            }
            if (nobody(p)) return -1;
            if (out(n, 0, 20)) return -2;
            if (now.seen.size() == 5) return -4;
            now.seen.add(new int[] {p, isOut ? 1 : 0, n});
            return now.seen.size();
        }

        int where(int p, int what) {
            if (nobody(p) || out(what, 0, 1)) return -1;
            List<Integer> good = new ArrayList<>();
            for (int place = 0; place < 30; place++) {
                World w = now.copy();
                w.people.get(p).place = place;
                w.people.get(p).out = false;
                if (w.isAsSeen()) good.add(place);
            }
            return what == 0 ? good.size() : good.isEmpty() ? -5 : good.get(0);
        }

        int can(int p, int what) {
            if (nobody(p) || out(what, 0, 1)) return -1;
            List<Integer> good = new ArrayList<>();
            for (int v = 0; v < 10; v++) {
                World w = now.copy();
                w.people.get(p).v = v;
                if (w.isAsSeen()) good.add(v);
            }
            return what == 0 ? good.size() : good.isEmpty() ? -5 : good.get(0);
        }

        static long lowest(int above, int below, int part) {
            for (int d = below; d > 1; d--) {
                if (above % d == 0 && below % d == 0) {
                    return part == 0 ? above / d : below / d;
                }
            }
            return part == 0 ? above : below;
        }

        long odds(int n, int part) {
            if (out(n, 0, 99) || out(part, 0, 1) || now.people.isEmpty()) return Long.MIN_VALUE;
            int good = 0;
            for (int p = 0; p < now.people.size(); p++) {
                World w = now.copy();
                w.people.get(p).called = true;
                w.go(n);
                good += w.outCount() == w.people.size() ? 1 : 0;
            }
            return lowest(good, now.people.size(), part);
        }

        long mean(int n, int part) {
            if (out(n, 1, 60) || out(part, 0, 1)) return Long.MIN_VALUE;
            int together = 0;
            for (int i = 1; i <= n; i++) {
                together += now.later(i).outCount();
            }
            return lowest(together, n, part);
        }

        int evening(int what, int number) {
            if (what == -1) {
                now.evening.clear();
                return 0;
            }
            if (out(what, 0, 3)) return -1;
            if ((what == 1 || what == 2) && noGate(number)) return -1;
            if (what == 3 && nobody(number)) return -1;
            if (now.evening.size() == 10) return -4;
            now.evening.add(new int[] {what, number});
            return now.evening.size();
        }

        int gone(int what) {
            if (out(what, 0, 1)) return -1;
            World w = now.copy();
            for (int[] e : now.evening) {
                if (e[0] == 0) w.go(1);
                if (e[0] == 1) w.shut.set(e[1], false);
                if (e[0] == 2) w.shut.set(e[1], true);
                if (e[0] == 3) w.people.get(e[1]).called = true;
            }
            return what == 0 ? w.outBits() : w.shutBits();
        }

        int book(int p, int place) {
            if (p == -1) {
                now.book.clear();
                return 0;
            }
            if (nobody(p)) return -1;
            if (out(place, 0, 29)) return -2;
            if (now.book.size() == 8) return -4;
            now.book.add(new int[] {p, place});
            return now.book.size();
        }

        int looked() {
            for (int[] b : now.book) {
                if (now.people.get(b[0]).place != b[1]) return now.book.indexOf(b);
            }
            return -5;
        }

        int judge(int tape, int i) {
            if (out(tape, 0, 5)) return -1;
            if (tapes[tape] != null && !(tapes[tape] instanceof byte[])) return -12;
            if (now.people.isEmpty()) return -5;
            if (tapes[tape] == null || i < 0) return 100;
            byte[] row = (byte[]) tapes[tape];
            for (Someone one : now.people) {
                long at = (long) i + one.number;
                if (at >= row.length) return 100 + one.number;
                if (row[(int) at] != one.place) return one.number;
            }
            return -5;
        }

        int image() {
            image = now.copy();
            return image.people.size();
        }

        int undo() {
            if (image == null) return -3;
            now = image.copy();
            return now.people.size();
        }

        int act(int p, int act, int x) {
            trace.clear();
            if (nobody(p) || out(act, 0, 2)) return 0;
            Plain actor = actor(now.people.get(p), trace);
            return act == 0 ? actor.waits(x) : act == 1 ? actor.walks(x) : actor.tells(x);
        }

        int trace(int i) {
            return out(i, 0, Math.min(20, trace.size()) - 1) ? -1 : trace.get(i);
        }

        int taken(int p, int k) {
            if (out(k, 0, 6)) return -2;
            if (nobody(p)) return -11;
            return isTakenFor(actor(now.people.get(p), trace), k) ? now.people.get(p).kind : -12;
        }

        int count(int what) {
            int[] all = {now.people.size(), now.gates.size(), dusks.size(), now.round.size(), now.seen.size(),
                now.evening.size(), now.book.size(), text.length(), trace.size()};
            return out(what, 0, 8) ? -2 : all[what];
        }

        int tape(int tape, int sort, int n) {
            if (out(tape, 0, 5)) return -1;
            if (sort == -1) {
                tapes[tape] = null;
                return 1;
            }
            if (out(sort, 0, 4) || n > 60) return -2;
            if (n < 0) return -14;
            tapes[tape] = sort == 0 ? new byte[n] : sort == 1 ? new short[n] : sort == 2 ? new int[n]
                : sort == 3 ? new long[n] : (Object) new boolean[n];
            return 1;
        }

        int item(int tape, int i, long v) {
            if (out(tape, 0, 5)) return -1;
            Object row = tapes[tape];
            if (row == null) return -11;
            if (i < 0 || i >= java.lang.reflect.Array.getLength(row)) return -13;
            if (row instanceof byte[]) ((byte[]) row)[i] = (byte) v;
            if (row instanceof short[]) ((short[]) row)[i] = (short) v;
            if (row instanceof int[]) ((int[]) row)[i] = (int) v;
            if (row instanceof long[]) ((long[]) row)[i] = v;
            if (row instanceof boolean[]) ((boolean[]) row)[i] = v != 0;
            return 1;
        }

        long read(int tape, int i) {
            if (out(tape, 0, 5) || tapes[tape] == null) return Long.MIN_VALUE;
            Object row = tapes[tape];
            if (i < 0 || i >= java.lang.reflect.Array.getLength(row)) return Long.MIN_VALUE;
            if (row instanceof boolean[]) return ((boolean[]) row)[i] ? 1 : 0;
            return java.lang.reflect.Array.getLong(row, i);
        }

        int shift(int tape, int i, int other, int j, int n) {
            if (out(tape, 0, 5) || out(other, 0, 5)) return -1;
            if (tapes[tape] == null || tapes[other] == null) return -11;
            if (tapes[tape].getClass() != tapes[other].getClass()) return -12;
            long end = java.lang.reflect.Array.getLength(tapes[tape]);
            long otherEnd = java.lang.reflect.Array.getLength(tapes[other]);
            if (i < 0 || j < 0 || n < 0 || (long) i + n > end || (long) j + n > otherEnd) return -13;
            System.arraycopy(tapes[tape], i, tapes[other], j, n);
            return n;
        }
    }

    // ---- runs

    private static final class Run {
        final int number;
        final LockedAtDusk x = new LockedAtDusk();
        final Model m = new Model();
        final List<String> told = new ArrayList<>();
        int calls = 0;

        Run(int number) {
            this.number = number;
        }

        int go() {
            if (number % 3 != 0) {
                begin();
            }
            for (int i = 0; i < CALLS && wrong == 0; i++) {
                one();
            }
            return calls;
        }

        void same(String call, long got, long want) {
            calls++;
            told.add(call + " -> " + got);
            if (got != want && wrong++ == 0) {
                System.out.println("run " + number + ":");
                for (String line : told) {
                    System.out.println("  " + line);
                }
                System.out.println("  the model answers " + want);
            }
        }

        void begin() {
            int gates = pick(1, 6);
            for (int i = 0; i < gates; i++) {
                gate(pick(30));
            }
            int people = pick(1, 6);
            for (int i = 0; i < people; i++) {
                person(pick(7), pick(10), pick(30));
            }
            int rounds = pick(0, 6);
            for (int i = 0; i < rounds; i++) {
                round(pick(gates));
            }
            if (pick(3) > 0) {
                feedText();
            }
        }

        void gate(int place) {
            same("gate(" + place + ")", x.gate(place), m.gate(place));
        }

        void person(int kind, int v, int place) {
            same("person(" + kind + ", " + v + ", " + place + ")", x.person(kind, v, place), m.person(kind, v, place));
        }

        void round(int gate) {
            same("round(" + gate + ")", x.round(gate), m.round(gate));
        }

        void feedText() {
            String text = text();
            for (int i = 0; i < text.length(); i++) {
                x.feed(text.charAt(i));
                m.feed(text.charAt(i));
            }
            told.add("fed " + text);
            same("dusk()", x.dusk(), m.dusk());
        }

        int p() {
            return mostly(0, Math.max(0, m.now.people.size() - 1));
        }

        int g() {
            return mostly(0, Math.max(0, m.now.gates.size() - 1));
        }

        void one() {
            switch (pick(5)) {
                case 0: changes(); break;
                case 1: more(); break;
                case 2: tapes(); break;
                default: asks(); break;
            }
        }

        void changes() {
            int p = p(), g = g(), place = mostly(0, 29), n = mostly(0, 9);
            boolean is = pick(2) == 0;
            switch (pick(12)) {
                case 0: gate(place); break;
                case 1: person(mostly(0, 6), n, place); break;
                case 2: same("put(" + p + ", " + place + ")", x.put(p, place), m.put(p, place)); break;
                case 3: same("call(" + p + ", " + is + ")", x.call(p, is), m.call(p, is)); break;
                case 4: same("shut(" + g + ", " + is + ")", x.shut(g, is), m.shut(g, is)); break;
                case 5:
                    int part = mostly(0, 3);
                    same("row(" + p + ", " + part + ", " + n + ")", x.row(p, part, n), m.row(p, part, n));
                    break;
                case 6: round(pick(6) == 0 ? -1 : g); break;
                case 7: feedText(); break;
                case 8:
                    int sign = mostly(0, 127);
                    same("feed(" + sign + ")", x.feed(sign), m.feed(sign));
                    break;
                case 9: same("image()", x.image(), m.image()); break;
                case 10: same("undo()", x.undo(), m.undo()); break;
                default:
                    int minutes = pick(8) == 0 ? mostly(0, 60) : pick(4);
                    same("pass(" + minutes + ")", x.pass(minutes), m.pass(minutes));
                    break;
            }
        }

        void more() {
            int p = pick(7) == 0 ? -1 : p();
            int n = mostly(0, 20), place = mostly(0, 29);
            boolean is = pick(2) == 0;
            switch (pick(5)) {
                case 0: same("see(" + p + ", " + is + ", " + n + ")", x.see(p, is, n), m.see(p, is, n)); break;
                case 1:
                    if (m.now.people.size() > 0 && p >= 0 && p < m.now.people.size() && pick(2) == 0) {
                        place = m.now.people.get(p).place;
                    }
                    same("book(" + p + ", " + place + ")", x.book(p, place), m.book(p, place));
                    break;
                case 2:
                    int what = pick(12) == 0 ? -1 : mostly(0, 3);
                    int number = what == 3 ? p() : g();
                    same("evening(" + what + ", " + number + ")", x.evening(what, number), m.evening(what, number));
                    break;
                default:
                    int act = mostly(0, 2), v = pick(3) == 0 ? mostly(0, 1) * 1234567891 : pick(-99, 99);
                    int who = p();
                    same("act(" + who + ", " + act + ", " + v + ")", x.act(who, act, v), m.act(who, act, v));
                    for (int i = -1; i < 13; i++) {
                        same("trace(" + i + ")", x.trace(i), m.trace(i));
                    }
                    break;
            }
        }

        void tapes() {
            int tape = mostly(0, pick(2) == 0 ? 1 : 5), other = mostly(0, pick(2) == 0 ? 1 : 5), n = mostly(0, 6);
            int i = mostly(0, 6), j = mostly(0, 6);
            switch (pick(5)) {
                case 0:
                    int sort = pick(2) == 0 ? 0 : mostly(-1, 4);
                    int size = pick(4) == 0 ? mostly(0, 60) : n;
                    same("tape(" + tape + ", " + sort + ", " + size + ")", x.tape(tape, sort, size), m.tape(tape, sort, size));
                    break;
                case 1:
                    long v = pick(3) == 0 ? state : pick(-3, 300);
                    same("item(" + tape + ", " + i + ", " + v + ")", x.item(tape, i, v), m.item(tape, i, v));
                    break;
                case 2: same("read(" + tape + ", " + i + ")", x.read(tape, i), m.read(tape, i)); break;
                case 3:
                    same("shift(" + tape + ", " + i + ", " + other + ", " + j + ", " + n + ")",
                        x.shift(tape, i, other, j, n), m.shift(tape, i, other, j, n));
                    break;
                default:
                    fillByPlaces(tape, i);
                    same("judge(" + tape + ", " + i + ")", x.judge(tape, i), m.judge(tape, i));
                    break;
            }
        }

        /** Now and then the tape tells the places as they are, so that judging gets further than the first. */
        void fillByPlaces(int tape, int i) {
            if (pick(2) == 0 || i < 0 || i > 60) {
                return;
            }
            int most = pick(7);
            for (int k = 0; k < most && k < m.now.people.size(); k++) {
                int v = m.now.people.get(k).place;
                same("item(" + tape + ", " + (i + k) + ", " + v + ")", x.item(tape, i + k, v), m.item(tape, i + k, v));
            }
        }

        void asks() {
            int p = p(), what = mostly(0, 1), n = mostly(0, 99);
            switch (pick(15)) {
                case 0: case 1:
                    int thing = mostly(0, 9);
                    same("of(" + p + ", " + thing + ")", x.of(p, thing), m.of(p, thing));
                    break;
                case 2:
                    int told = mostly(0, 16);
                    same("told(" + told + ")", x.told(told), m.told(told));
                    break;
                case 3: case 4:
                    int on = pick(3) == 0 ? mostly(0, 2) : mostly(10, 26);
                    same("on(" + n + ", " + on + ")", x.on(n, on), m.on(n, on));
                    break;
                case 5: same("clear()", x.clear(), m.clear()); break;
                case 6: same("stay()", x.stay(), m.stay()); break;
                case 7:
                    int best = mostly(0, 5);
                    same("best(" + best + ")", x.best(best), m.best(best));
                    break;
                case 8: same("hides(" + p + ")", x.hides(p), m.hides(p)); break;
                case 9: same("where(" + p + ", " + what + ")", x.where(p, what), m.where(p, what)); break;
                case 10: same("can(" + p + ", " + what + ")", x.can(p, what), m.can(p, what)); break;
                case 11: same("odds(" + n + ", " + what + ")", x.odds(n, what), m.odds(n, what)); break;
                case 12:
                    int minutes = pick(4) == 0 ? mostly(1, 60) : pick(1, 9);
                    same("mean(" + minutes + ", " + what + ")", x.mean(minutes, what), m.mean(minutes, what));
                    break;
                case 13:
                    same("gone(" + what + ")", x.gone(what), m.gone(what));
                    same("looked()", x.looked(), m.looked());
                    break;
                default:
                    int count = mostly(0, 8), k = mostly(0, 6);
                    same("count(" + count + ")", x.count(count), m.count(count));
                    same("taken(" + p + ", " + k + ")", x.taken(p, k), m.taken(p, k));
                    break;
            }
        }
    }
}
