import java.util.ArrayDeque;
import java.util.ArrayList;
import java.util.Arrays;
import java.util.Deque;
import java.util.HashMap;
import java.util.List;
import java.util.Map;
import java.util.Set;

/**
 * The document once more, in another way: everything is reckoned by brute force from its definition,
 * faults are found by an automaton, values by splitting at the loosest sign. RandomRunsTest holds the class against it.
 */
final class Oracle {
    static final Set<String> NAMES = Set.of("weather", "hour", "years", "number", "mended", "last");
    static final Set<String> KEYS = Set.of("thinks", "mends", "claims", "or", "and", "not");

    record Tok(String s, int place) { }

    static final class Person {
        int kind, number, premium = 5;
        Person(int kind, int number) { this.kind = kind; this.number = number; }
        Person same() { Person p = new Person(kind, number); p.premium = premium; return p; }
    }

    static final class World {
        int[] weather = new int[8];
        boolean[] mended = new boolean[8];
        int years, limit, purse = 100, rule;
        List<Person> people = new ArrayList<>();

        World same() {
            World w = new World();
            w.weather = weather.clone();
            w.mended = mended.clone();
            w.years = years; w.limit = limit; w.purse = purse; w.rule = rule;
            for (Person p : people) w.people.add(p.same());
            return w;
        }
    }

    static final class Row { int sort; int[] v; Row(int sort, int n) { this.sort = sort; v = new int[n]; } }

    World w = new World();
    World image = null;
    final StringBuilder tape = new StringBuilder();
    final List<List<List<Tok>>> texts = new ArrayList<>();
    final Row[] rows = new Row[4];

    Oracle() {
        texts.add(parts(tokens("thinks weather + mended * 9 ; mends 10 - weather ; claims 20 + years ;")));
    }

    // ---- texts

    /** Tokens till the first that is none; that one has the text null. The end is one of the text "". */
    static List<Tok> tokens(String text) {
        List<Tok> all = new ArrayList<>();
        int i = 0;
        while (i < text.length()) {
            char c = text.charAt(i);
            if (c == ' ' || c == '\n') { i++; continue; }
            int j = i;
            while (j < text.length() && text.charAt(j) >= 'a' && text.charAt(j) <= 'z') j++;
            if (j > i) {
                String word = text.substring(i, j);
                all.add(new Tok(NAMES.contains(word) || KEYS.contains(word) ? word : null, i));
            } else {
                while (j < text.length() && text.charAt(j) >= '0' && text.charAt(j) <= '9') j++;
                if (j > i) all.add(new Tok(j - i > 4 ? null : text.substring(i, j), i));
                else if ("();+-*<=".indexOf(c) >= 0) { all.add(new Tok("" + c, i)); j = i + 1; }
                else all.add(new Tok(null, i));
            }
            if (all.get(all.size() - 1).s == null) return all;
            i = j;
        }
        all.add(new Tok("", text.length()));
        return all;
    }

    /** -1, or the fault's place. */
    static int fault(List<Tok> tokens) {
        String[] keys = {"thinks", "mends", "claims"};
        int part = 0;
        boolean wantsKey = true, wantsOperand = false, mayNot = false, compared = false;
        Deque<String> opened = new ArrayDeque<>();
        Deque<Boolean> comparedAround = new ArrayDeque<>();
        for (Tok t : tokens) {
            if (t.s == null) return t.place;
            boolean number = !t.s.isEmpty() && Character.isDigit(t.s.charAt(0));
            if (part == 3) return t.s.isEmpty() ? -1 : t.place;
            if (wantsKey) {
                if (!t.s.equals(keys[part])) return t.place;
                wantsKey = false; wantsOperand = true; mayNot = true; compared = false;
            } else if (wantsOperand) {
                if (number || NAMES.contains(t.s)) {
                    wantsOperand = false;
                    while ("-".equals(opened.peek())) opened.pop();
                } else if (t.s.equals("-") || t.s.equals("(") || t.s.equals("not") && mayNot) {
                    if (opened.size() == 5) return t.place;
                    opened.push(t.s);
                    if (t.s.equals("-")) mayNot = false;
                    if (t.s.equals("(")) { comparedAround.push(compared); compared = false; mayNot = true; }
                } else return t.place;
            } else if (t.s.equals("+") || t.s.equals("-") || t.s.equals("*")) {
                wantsOperand = true; mayNot = false;
            } else if (t.s.equals("<") || t.s.equals("=")) {
                if (compared) return t.place;
                compared = true; wantsOperand = true; mayNot = false;
            } else if (t.s.equals("and") || t.s.equals("or")) {
                while ("not".equals(opened.peek())) opened.pop();
                compared = false; wantsOperand = true; mayNot = true;
            } else if (t.s.equals(")")) {
                while ("not".equals(opened.peek())) opened.pop();
                if (opened.isEmpty()) return t.place;
                opened.pop();
                compared = comparedAround.pop();
                while ("-".equals(opened.peek())) opened.pop();
            } else if (t.s.equals(";")) {
                while ("not".equals(opened.peek())) opened.pop();
                if (!opened.isEmpty()) return t.place;
                part++; wantsKey = true;
            } else return t.place;
        }
        throw new IllegalStateException("no end");
    }

    static List<List<Tok>> parts(List<Tok> tokens) {
        List<List<Tok>> parts = new ArrayList<>();
        int from = 1;
        for (int i = 0; i < tokens.size(); i++) {
            if (tokens.get(i).s.equals(";")) { parts.add(tokens.subList(from, i)); from = i + 2; }
        }
        return parts;
    }

    /** Where the last of the signs stands that has something to join, outside all brackets; or -1. */
    static int lastOf(List<Tok> e, String... signs) {
        int depth = 0, found = -1;
        boolean behindOperand = false;
        for (int i = 0; i < e.size(); i++) {
            String s = e.get(i).s;
            if (s.equals("(")) depth++;
            if (s.equals(")")) depth--;
            if (depth == 0 && behindOperand && Arrays.asList(signs).contains(s)) found = i;
            behindOperand = s.equals(")") || NAMES.contains(s) || Character.isDigit(s.charAt(0));
        }
        return found;
    }

    static int value(List<Tok> e, Map<String, Integer> env) {
        for (String[] level : new String[][] {{"or"}, {"and"}}) {
            int at = lastOf(e, level);
            if (at >= 0) {
                boolean a = value(e.subList(0, at), env) != 0, b = value(e.subList(at + 1, e.size()), env) != 0;
                return (level[0].equals("or") ? a || b : a && b) ? 1 : 0;
            }
        }
        if (e.get(0).s.equals("not")) return value(e.subList(1, e.size()), env) == 0 ? 1 : 0;
        for (String[] level : new String[][] {{"<", "="}, {"+", "-"}, {"*"}}) {
            int at = lastOf(e, level);
            if (at >= 0) {
                int a = value(e.subList(0, at), env), b = value(e.subList(at + 1, e.size()), env);
                switch (e.get(at).s) {
                    case "<": return a < b ? 1 : 0;
                    case "=": return a == b ? 1 : 0;
                    case "+": return a + b;
                    case "-": return a - b;
                    default: return a * b;
                }
            }
        }
        String first = e.get(0).s;
        if (first.equals("-")) return -value(e.subList(1, e.size()), env);
        if (first.equals("(")) return value(e.subList(1, e.size() - 1), env);
        return NAMES.contains(first) ? env.get(first) : Integer.parseInt(first);
    }

    /** Remembers what it reckoned, by all that a text may ask for: the Oracle is slow. */
    int worth(World o, int one, int hour, int part) {
        boolean claims = part == 2;
        int[] asked = {
            claims ? 0 : o.weather[hour], claims ? 0 : hour, o.years, o.people.get(one).number,
            claims || !o.mended[hour] ? 0 : 1, claims || hour == 0 ? 0 : o.weather[hour - 1], o.rule, part};
        long key = 0;
        for (int v : asked) key = key * 256 + (v & 255);
        return worths.computeIfAbsent(key, k -> reckon(asked));
    }

    private final Map<Long, Integer> worths = new HashMap<>();

    private int reckon(int[] asked) {
        String[] names = {"weather", "hour", "years", "number", "mended", "last"};
        Map<String, Integer> env = new HashMap<>();
        for (int i = 0; i < 6; i++) env.put(names[i], asked[i]);
        int v = value(texts.get(asked[6]).get(asked[7]), env);
        return Math.max(asked[7] == 0 ? -99 : 0, Math.min(99, v));
    }

    // ---- what people think

    static int thinksAs(int kind, int v, int hour, int years, int number) {
        switch (kind) {
            case 1: return Math.max(0, thinksAs(0, v, hour, years, number));
            case 2: return hour == Math.floorMod(number, 8) ? 2 * thinksAs(0, v, hour, years, number) : 0;
            case 3: return thinksAs(1, v, hour, years, number) - (years < number ? 5 : 0);
            case 4: return hour == 7 ? 9 : thinksAs(2, v, hour, years, number);
            case 5: return Math.abs(thinksAs(0, v, hour, years, number));
            default: return v;
        }
    }

    int thinks(World o, int one, int hour) {
        Person p = o.people.get(one);
        return Math.max(-99, Math.min(99, thinksAs(p.kind, worth(o, one, hour, 0), hour, o.years, p.number)));
    }

    int mending(World o, int one, int hour) {
        Person p = o.people.get(one);
        int v = worth(o, one, hour, 1);
        int m = new int[] {v, v / 2, 1, v / 2 + p.number, 1, 0}[p.kind];
        return Math.max(0, Math.min(99, m));
    }

    int memory(World o, int one) {
        int sum = 0;
        for (int h = 0; h < 8; h++) sum += thinks(o, one, h);
        return sum;
    }

    boolean hazy(World o, int one) { return memory(o, one) >= o.limit; }

    int claims(World o, int one) {
        if (hazy(o, one)) return 0;
        Person p = o.people.get(one);
        int v = worth(o, one, 0, 2);
        return new int[] {v, v, 0, 2 * v, 0, -p.number}[p.kind];
    }

    int hazyCount(World o) {
        int n = 0;
        for (int i = 0; i < o.people.size(); i++) if (hazy(o, i)) n++;
        return n;
    }

    int due(World o) {
        int n = 0;
        for (int i = 0; i < o.people.size(); i++) n += claims(o, i);
        return n;
    }

    int premiums(World o) { return o.people.stream().mapToInt(p -> p.premium).sum(); }

    int cost(World o, int hour) {
        int n = 0;
        for (int i = 0; i < o.people.size(); i++) n += mending(o, i, hour);
        return n;
    }

    static int bound(int purse) { return Math.max(-99999, Math.min(99999, purse)); }

    void pass(World o) {
        int due = due(o);
        o.purse = bound(o.purse + premiums(o));
        o.purse = bound(o.purse - due);
        o.years++;
    }

    boolean one(int i) { return i >= 0 && i < w.people.size(); }
    static boolean hour(int i) { return i >= 0 && i <= 7; }

    // ---- the calls

    int set(int what, int of, int v) {
        int was = plain(what, of);
        if (was == -1000000) return was;
        int[][] range = {{0, 99}, {-999, 999}, {-99999, 99999}, {-9, 9}, {0, 1}, {0, 9}, {0, 99}};
        if (v < range[what][0] || v > range[what][1]) return -1000000;
        if (what == 0) w.years = v;
        if (what == 1) w.limit = v;
        if (what == 2) w.purse = v;
        if (what == 3) w.weather[of] = v;
        if (what == 4) w.mended[of] = v == 1;
        if (what == 5) w.people.get(of).number = v;
        if (what == 6) w.people.get(of).premium = v;
        return was;
    }

    int plain(int what, int of) {
        if (what == 0) return w.years;
        if (what == 1) return w.limit;
        if (what == 2) return w.purse;
        if (what == 3 && hour(of)) return w.weather[of];
        if (what == 4 && hour(of)) return w.mended[of] ? 1 : 0;
        if (what == 5 && one(of)) return w.people.get(of).number;
        if (what == 6 && one(of)) return w.people.get(of).premium;
        return -1000000;
    }

    int person(int kind, int number) {
        if (kind < 0 || kind > 5 || number < 0 || number > 9) return -2;
        if (w.people.size() == 6) return -4;
        w.people.add(new Person(kind, number));
        return w.people.size() - 1;
    }

    int told(int of, int what) {
        if (what < 7) return plain(what, of);
        if (what == 11) return hour(of) ? cost(w, of) : -1000000;
        if (!one(of)) return -1000000;
        if (what == 7) return w.people.get(of).kind;
        if (what == 8) return memory(w, of);
        if (what == 9) return hazy(w, of) ? 1 : 0;
        if (what == 10) return claims(w, of);
        if (what >= 20 && what <= 27) return thinks(w, of, what - 20);
        if (what >= 30 && what <= 37) return mending(w, of, what - 30);
        return -1000000;
    }

    int feed(int letter) {
        if (letter < 0 || letter > 255) return -2;
        if (tape.length() == 160) return -4;
        tape.append((char) letter);
        return tape.length();
    }

    int text() {
        if (texts.size() == 6) return -4;
        List<Tok> tokens = tokens(tape.toString());
        tape.setLength(0);
        int fault = fault(tokens);
        if (fault >= 0) return -100 - fault;
        texts.add(parts(tokens));
        return texts.size() - 1;
    }

    int force(int text) {
        if (text < 0 || text >= texts.size()) return -2;
        int was = w.rule;
        w.rule = text;
        return was;
    }

    int year() {
        if (w.years == 99) return -1000000;
        pass(w);
        return w.purse;
    }

    int right(int hour) {
        if (!hour(hour)) return -2;
        if (w.mended[hour]) return -3;
        int cost = cost(w, hour);
        w.purse = bound(w.purse - cost);
        w.mended[hour] = true;
        return cost;
    }

    int run(int n, int what) {
        if (n < 0 || n > 40 || what < 0 || what > 2) return -1000000;
        World o = w.same();
        List<Integer> purses = new ArrayList<>();
        for (int i = 0; i < n; i++) { pass(o); purses.add(o.purse); }
        if (what == 0) return o.purse;
        if (what == 1) return hazyCount(o);
        for (int i = 0; i < n; i++) if (purses.get(i) < 0) return i;
        return -1;
    }

    int society(int what) {
        if (what == 0) return hazyCount(w);
        if (what == 1) return due(w);
        if (what == 2) return premiums(w);
        if (what == 3) {
            int bits = 0;
            for (int h = 0; h < 8; h++) {
                boolean never = true;
                for (int i = 0; i < w.people.size(); i++) never &= thinks(w, i, h) == 0;
                if (never) bits += 1 << h;
            }
            return bits;
        }
        if (what == 4) {
            int sum = 0;
            for (int h = 0; h < 8; h++) if (!w.mended[h]) sum += cost(w, h);
            return sum;
        }
        return -1000000;
    }

    /** {set, hazy, cost} of every set of hours that aren't mended. */
    List<int[]> sets() {
        List<int[]> sets = new ArrayList<>();
        for (int set = 0; set < 256; set++) {
            World o = w.same();
            int cost = 0;
            boolean fits = true;
            for (int h = 0; h < 8; h++) {
                if ((set >> h & 1) == 1) {
                    fits &= !w.mended[h];
                    o.mended[h] = true;
                    cost += cost(w, h);
                }
            }
            if (fits) sets.add(new int[] {set, hazyCount(o), cost});
        }
        return sets;
    }

    int cheapest(int m, int what) {
        if (m < 0 || m > 6 || what < 0 || what > 1) return -2;
        return sets().stream().filter(s -> s[1] >= m)
            .min((a, b) -> a[2] != b[2] ? Integer.compare(a[2], b[2]) : Integer.compare(a[0], b[0]))
            .map(s -> what == 0 ? s[0] : s[2]).orElse(-1);
    }

    int most(int x, int what) {
        if (x < 0 || x > 999 || what < 0 || what > 2) return -2;
        return sets().stream().filter(s -> s[2] <= x)
            .min((a, b) -> a[1] != b[1] ? Integer.compare(b[1], a[1])
                : a[2] != b[2] ? Integer.compare(a[2], b[2]) : Integer.compare(a[0], b[0]))
            .map(s -> s[what]).orElseThrow();
    }

    int haze(int one) {
        if (!one(one)) return -2;
        World o = w.same();
        for (int i = 0; i <= 40; i++) {
            if (hazy(o, one)) return i;
            o.years++;
        }
        return -1;
    }

    int premium() {
        for (int p = 0; p < 100; p++) {
            World o = w.same();
            for (Person q : o.people) q.premium = p;
            boolean good = true;
            for (int i = 0; i < 10; i++) { pass(o); good &= o.purse >= 0; }
            if (good) return p;
        }
        return -1;
    }

    int best(int one, int what) {
        if (!one(one) || what < 0 || what > 2) return -1000000;
        if (what == 2) {
            int bits = 0;
            for (int h = 0; h < 8; h++) {
                boolean alone = thinks(w, one, h) > 0;
                for (int i = 0; i < w.people.size(); i++) alone &= i == one || thinks(w, i, h) <= 0;
                if (alone) bits += 1 << h;
            }
            return bits;
        }
        int best = 7;
        for (int h = 6; h >= 0; h--) if (thinks(w, one, h) >= thinks(w, one, best)) best = h;
        return what == 0 ? best : thinks(w, one, best);
    }

    int agree(int one, int other) {
        if (!one(one) || !one(other) || one == other) return -2;
        int bits = 0;
        for (int h = 0; h < 8; h++) if (thinks(w, one, h) == thinks(w, other, h)) bits += 1 << h;
        return bits;
    }

    boolean justSo(World o, int one, int[] row) {
        for (int h = 0; h < 8; h++) if (thinks(o, one, h) != row[h]) return false;
        return true;
    }

    int tells(int sheet, int one, int what) {
        if (sheet < 0 || sheet > 3 || !one(one) || what < 0 || what > 17 || what == 9) return -2;
        if (rows[sheet] == null) return -11;
        int[] row = rows[sheet].v;
        if (row.length != 8) return -2;
        if (what == 0) {
            for (int h = 0; h < 8; h++) if (thinks(w, one, h) != row[h]) return h;
            return -1;
        }
        List<Integer> fitting = new ArrayList<>();
        int most = new int[] {0, 6, 10, 100, 100, 256, 256, texts.size(), w.people.size(), 0, 19}[Math.min(what, 10)];
        for (int i = 0; i < most; i++) {
            World o = w.same();
            int who = one;
            if (what == 1) o.people.get(one).kind = i;
            else if (what == 2) o.people.get(one).number = i;
            else if (what <= 4) o.years = i;
            else if (what <= 6) for (int h = 0; h < 8; h++) o.mended[h] = (i >> h & 1) == 1;
            else if (what == 7) o.rule = i;
            else if (what == 8) who = i;
            else o.weather[what - 10] = i - 9;
            if (justSo(o, who, row)) fitting.add(i);
        }
        if (what == 3 || what == 5) return fitting.size();
        if (what == 4 || what == 6) return fitting.isEmpty() ? -1 : fitting.get(0);
        return fitting.stream().mapToInt(i -> 1 << i).sum();
    }

    int film(int sheet, int one) {
        if (sheet < 0 || sheet > 3 || !one(one)) return -1000000;
        rows[sheet] = new Row(0, 8);
        for (int h = 0; h < 8; h++) rows[sheet].v[h] = thinks(w, one, h);
        return memory(w, one);
    }

    int drawn(int seed) {
        World o = w.same();
        int z = seed;
        for (int h = 0; h < 8; h++) {
            z = z * 1103515245 + 12345;
            o.weather[h] = (int) ((z & 0xFFFFFFFFL) / 512 % 19) - 9;
        }
        return hazyCount(o);
    }

    long chance(int seed, int m, int k, int part) {
        if (m < 1 || m > 20 || k < 0 || k > 6 || part < 0 || part > 1) return -4611686018427387904L;
        int n = 0;
        for (int i = 0; i < m; i++) if (drawn(seed + i) >= k) n++;
        int g = java.math.BigInteger.valueOf(n).gcd(java.math.BigInteger.valueOf(m)).intValue();
        return part == 0 ? n / g : m / g;
    }

    int image() {
        image = w.same();
        return w.people.size();
    }

    int back() {
        if (image == null) return -3;
        w = image.same();
        return w.people.size();
    }

    int count(int what) {
        if (what == 0) return w.people.size();
        if (what == 1) { int n = 0; for (boolean b : w.mended) if (b) n++; return n; }
        if (what == 2) return w.years;
        if (what == 3) return texts.size();
        if (what == 4) return tape.length();
        if (what == 5) return w.rule;
        return -2;
    }

    int sheet(int sheet, int sort, int n) {
        if (sheet < 0 || sheet > 3 || sort < -1 || sort > 2) return -2;
        if (sort == -1) { rows[sheet] = null; return 1; }
        if (n > 40) return -2;
        if (n < 0) return -14;
        rows[sheet] = new Row(sort, n);
        return 1;
    }

    int cell(int sheet, int i, int v) {
        if (sheet < 0 || sheet > 3) return -2;
        if (rows[sheet] == null) return -11;
        if (i < 0 || i >= rows[sheet].v.length) return -12;
        rows[sheet].v[i] = rows[sheet].sort == 0 ? (byte) v : rows[sheet].sort == 1 ? (short) v : v;
        return 1;
    }

    int copy(int sheet, int i, int other, int j, int n) {
        if (sheet < 0 || sheet > 3 || other < 0 || other > 3) return -2;
        Row a = rows[sheet], b = rows[other];
        if (a == null || b == null) return -11;
        if (a.sort != b.sort) return -13;
        if (i < 0 || j < 0 || n < 0 || (long) i + n > a.v.length || (long) j + n > b.v.length) return -12;
        int[] were = a.v.clone();
        for (int k = 0; k < n; k++) b.v[j + k] = were[i + k];
        return n;
    }

    int people(int sheet, int sort, int from, int n) {
        if (sheet < 0 || sheet > 3 || sort < 0 || sort > 2 || n < 0 || n > 6) return -2;
        Row row = rows[sheet];
        if (row != null && row.sort != sort) return -13;
        if (row == null) return -11;
        int came = 0;
        for (long at = from; at < from + 2L * n; at += 2) {
            if (at < 0 || at + 1 >= row.v.length) return -12;
            if (person(row.v[(int) at], row.v[(int) at + 1]) >= 0) came++;
        }
        return came;
    }

    int taken(int one, int k) {
        if (k < 0 || k > 5) return -2;
        if (!one(one)) return -11;
        Set<Integer> above = List.of(Set.of(0), Set.of(0, 1), Set.of(0, 2), Set.of(0, 1, 3), Set.of(0, 2, 4), Set.of(0, 5))
            .get(w.people.get(one).kind);
        return above.contains(k) ? w.people.get(one).number : -13;
    }
}
