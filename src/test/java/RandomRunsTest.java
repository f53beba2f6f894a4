import java.util.Random;

/** Runs of 512 calls drawn by fixed seeds, each answer held against the Oracle's. */
public final class RandomRunsTest {
    private static final String[] WORDS = {
        "weather", "hour", "years", "number", "mended", "last", "thinks", "mends", "claims", "or", "and", "not"};
    private static final String SIGNS = "();+-*<=";

    private final Random random;
    private final Check check;
    private final int run;
    private final RememberedAsSunny x = new RememberedAsSunny();
    private final Oracle o = new Oracle();
    private int calls = 0;

    private RandomRunsTest(Check check, int run) {
        this.random = new Random(run);
        this.check = check;
        this.run = run;
    }

    public static void main(String[] args) {
        int runs = args.length > 0 ? Integer.parseInt(args[0]) : 400;
        Check check = new Check("RandomRunsTest");
        for (int run = 0; run < runs; run++) {
            new RandomRunsTest(check, run).all();
        }
        for (int run = runs; run < runs + 20 * runs; run++) {
            new RandomRunsTest(check, run).oneText();
        }
        check.end();
    }

    private void all() {
        int gentle = random.nextInt(3);
        for (int i = random.nextInt(7); i > 0; i--) {
            int kind = random.nextInt(6), number = random.nextInt(10);
            due("person(" + kind + ", " + number + ")", x.person(kind, number), o.person(kind, number));
        }
        if (gentle > 0) {
            for (int h = 0; h < 8; h++) {
                int v = random.nextInt(19) - 9;
                due("set(3, " + h + ", " + v + ")", x.set(3, h, v), o.set(3, h, v));
            }
            int limit = random.nextInt(60) - 10;
            due("set(1, 0, " + limit + ")", x.set(1, 0, limit), o.set(1, 0, limit));
        }
        while (calls < 512) {
            one();
        }
    }

    /** A text, mostly right or nearly so, and what is thought by it. */
    private void oneText() {
        due("person(0, 3)", x.person(0, 3), o.person(0, 3));
        for (int h = 0; h < 8; h++) {
            int v = random.nextInt(19) - 9;
            due("set(3, " + h + ", " + v + ")", x.set(3, h, v), o.set(3, h, v));
        }
        String text = drawnText();
        Check.feed(x, text);
        o.tape.append(text, 0, Math.min(160, text.length()));
        due("text() of " + text, x.text(), o.text());
        due("force(1) of " + text, x.force(1), o.force(1));
        for (int h = 0; h < 8; h++) {
            due("told(0, " + (20 + h) + ") of " + text, x.told(0, 20 + h), o.told(0, 20 + h));
            due("told(0, " + (30 + h) + ") of " + text, x.told(0, 30 + h), o.told(0, 30 + h));
        }
        due("told(0, 10) of " + text, x.told(0, 10), o.told(0, 10));
    }

    private void due(String call, long got, long want) {
        calls++;
        check.due("run " + run + ", call " + calls + ": " + call, got, want);
    }

    private int odd() {
        int[] odd = {Integer.MIN_VALUE, Integer.MAX_VALUE, -1, -2, 256, 1000000, Integer.MIN_VALUE + 9, -1000000};
        return odd[random.nextInt(odd.length)];
    }

    /** Most times lowest .. highest, seldom just outside, or far. */
    private int in(int lowest, int highest) {
        int choice = random.nextInt(40);
        if (choice == 0) return odd();
        if (choice == 1) return lowest - 1;
        if (choice == 2) return highest + 1;
        return lowest + random.nextInt(highest - lowest + 1);
    }

    private int person() {
        int n = Math.max(1, o.w.people.size());
        return random.nextInt(25) == 0 ? in(-1, 6) : random.nextInt(n);
    }

    private int any() {
        return random.nextInt(4) == 0 ? random.nextInt() : random.nextInt(300) - 150;
    }

    private void one() {
        switch (random.nextInt(30)) {
            case 0: case 1: case 2: set(); break;
            case 3: { int k = in(0, 5), n = in(0, 9); due("person(" + k + ", " + n + ")", x.person(k, n), o.person(k, n)); break; }
            case 4: case 5: { int w = in(0, 37), of = random.nextBoolean() ? person() : in(0, 7); due("told(" + of + ", " + w + ")", x.told(of, w), o.told(of, w)); break; }
            case 6: text(); break;
            case 7: { int t = in(0, 5); due("force(" + t + ")", x.force(t), o.force(t)); break; }
            case 8: due("year()", x.year(), o.year()); break;
            case 9: { int h = in(0, 7); due("right(" + h + ")", x.right(h), o.right(h)); break; }
            case 10: { int n = in(0, 40), w = in(0, 2); due("run(" + n + ", " + w + ")", x.run(n, w), o.run(n, w)); break; }
            case 11: { int w = in(0, 4); due("society(" + w + ")", x.society(w), o.society(w)); break; }
            case 12: sets(); break;
            case 13: { int p = person(); due("haze(" + p + ")", x.haze(p), o.haze(p)); break; }
            case 14: due("premium()", x.premium(), o.premium()); break;
            case 15: { int p = person(), w = in(0, 2); due("best(" + p + ", " + w + ")", x.best(p, w), o.best(p, w)); break; }
            case 16: { int p = person(), q = person(); due("agree(" + p + ", " + q + ")", x.agree(p, q), o.agree(p, q)); break; }
            case 17: case 18: case 19: tells(); break;
            case 20: { int s = in(0, 3), p = person(); due("film(" + s + ", " + p + ")", x.film(s, p), o.film(s, p)); break; }
            case 21: { int s = random.nextInt(); due("drawn(" + s + ")", x.drawn(s), o.drawn(s)); break; }
            case 22: chance(); break;
            case 23: if (random.nextInt(4) == 0) due("image()", x.image(), o.image()); else if (random.nextInt(3) == 0) due("back()", x.back(), o.back()); break;
            case 24: { int w = in(0, 5); due("count(" + w + ")", x.count(w), o.count(w)); break; }
            case 25: sheet(); break;
            case 26: { int s = in(0, 3), i = in(0, 9), v = any(); due("cell(" + s + ", " + i + ", " + v + ")", x.cell(s, i, v), o.cell(s, i, v)); break; }
            case 27: copy(); break;
            case 28: people(); break;
            default: { int p = person(), k = in(0, 5); due("taken(" + p + ", " + k + ")", x.taken(p, k), o.taken(p, k)); }
        }
    }

    private void set() {
        int what = in(0, 6);
        int of = what == 3 || what == 4 ? in(0, 7) : person();
        int v;
        switch (what) {
            case 0: v = in(0, 99); break;
            case 1: v = random.nextInt(4) == 0 ? in(-999, 999) : in(-30, 60); break;
            case 2: v = random.nextInt(3) == 0 ? in(-99999, 99999) : in(-200, 900); break;
            case 3: v = in(-9, 9); break;
            case 4: v = in(0, 1); break;
            case 5: v = in(0, 9); break;
            default: v = in(0, 99);
        }
        due("set(" + what + ", " + of + ", " + v + ")", x.set(what, of, v), o.set(what, of, v));
    }

    private void text() {
        if (random.nextInt(4) != 0) {
            return;
        }
        String text = drawnText();
        for (int i = 0; i < text.length() && calls < 511; i++) {
            int c = text.charAt(i);
            due("feed(" + c + ")", x.feed(c), o.feed(c));
        }
        int before = o.texts.size();
        due("text()", x.text(), o.text());
        if (o.texts.size() > before && calls < 512) {
            due("force(" + before + ")", x.force(before), o.force(before));
        }
    }

    private String drawnText() {
        StringBuilder text = new StringBuilder();
        int kind = random.nextInt(10);
        if (kind < 8) {
            text.append("thinks ").append(e(random.nextInt(3) + 1)).append(";mends ").append(e(random.nextInt(2) + 1))
                .append(random.nextBoolean() ? " ;\nclaims " : ";claims ").append(e(1)).append(random.nextBoolean() ? ";" : "; ");
        } else {
            for (int i = random.nextInt(12); i > 0; i--) {
                text.append(token()).append(random.nextInt(3) == 0 ? "" : " ");
            }
        }
        for (int i = kind < 5 ? 0 : random.nextInt(3); i > 0 && text.length() > 0; i--) {
            int at = random.nextInt(text.length());
            switch (random.nextInt(3)) {
                case 0: text.deleteCharAt(at); break;
                case 1: text.insert(at, token()); break;
                default: text.setCharAt(at, (char) random.nextInt(256));
            }
        }
        return text.toString();
    }

    private String token() {
        int choice = random.nextInt(10);
        if (choice < 4) return WORDS[random.nextInt(WORDS.length)];
        if (choice < 6) return "" + random.nextInt(random.nextInt(5) == 0 ? 100000 : 20);
        if (choice == 6 && random.nextInt(4) == 0) return "" + (char) random.nextInt(256);
        return "" + SIGNS.charAt(random.nextInt(SIGNS.length()));
    }

    /** Any tree of signs: where it would be deeper than is allowed, or a not stands where none can, it has a fault. */
    private String e(int depth) {
        if (depth <= 0) {
            return random.nextInt(3) == 0 ? "" + random.nextInt(15) : WORDS[random.nextInt(6)];
        }
        String a = e(depth - 1 - random.nextInt(2));
        switch (random.nextInt(14)) {
            case 0: return a + " or " + e(depth - 2);
            case 1: return a + " and " + e(depth - 1);
            case 2: return "not " + a;
            case 3: return a + "<" + e(depth - 2);
            case 4: return a + "=" + e(depth - 2);
            case 5: case 6: return a + "+" + e(depth - 1);
            case 7: return a + "-" + e(depth - 1);
            case 8: case 9: return a + "*" + e(depth - 2);
            case 10: return "-" + a;
            case 11: case 12: return "(" + a + ")";
            default: return a;
        }
    }

    private void sets() {
        int w = in(0, 2);
        if (random.nextBoolean()) {
            int m = in(0, 6);
            due("cheapest(" + m + ", " + w + ")", x.cheapest(m, w), o.cheapest(m, w));
        } else {
            int c = random.nextBoolean() ? in(0, 999) : in(0, 120);
            due("most(" + c + ", " + w + ")", x.most(c, w), o.most(c, w));
        }
    }

    /** Most times of a sheet that was just filmed, so that something is told. */
    private void tells() {
        int s = in(0, 3), p = person(), w = in(0, 17);
        if (random.nextInt(5) > 0) {
            due("film(" + s + ", " + p + ")", x.film(s, p), o.film(s, p));
            int change = random.nextInt(4);
            int h = random.nextInt(8), v = random.nextInt(19) - 9;
            if (change == 0) due("set(3, " + h + ", " + v + ")", x.set(3, h, v), o.set(3, h, v));
            if (change == 1) due("cell(" + s + ", " + h + ", " + v + ")", x.cell(s, h, v), o.cell(s, h, v));
        }
        due("tells(" + s + ", " + p + ", " + w + ")", x.tells(s, p, w), o.tells(s, p, w));
    }

    private void chance() {
        int s = random.nextInt(3) == 0 ? Integer.MAX_VALUE - random.nextInt(9) : random.nextInt();
        int m = in(1, 20), k = in(0, 6), part = in(0, 1);
        due("chance(" + s + ", " + m + ", " + k + ", " + part + ")", x.chance(s, m, k, part), o.chance(s, m, k, part));
    }

    private void sheet() {
        int s = in(0, 3), sort = in(-1, 2), n = random.nextBoolean() ? in(0, 40) : in(7, 9);
        due("sheet(" + s + ", " + sort + ", " + n + ")", x.sheet(s, sort, n), o.sheet(s, sort, n));
    }

    private void copy() {
        int s = in(0, 3), i = in(0, 9), t = in(0, 3), j = in(0, 9), n = in(0, 9);
        due("copy(" + s + ", " + i + ", " + t + ", " + j + ", " + n + ")", x.copy(s, i, t, j, n), o.copy(s, i, t, j, n));
    }

    private void people() {
        int s = in(0, 3), from = in(0, 9), n = in(0, 6);
        int sort = s >= 0 && s < 4 && o.rows[s] != null && random.nextInt(5) > 0 ? o.rows[s].sort : in(0, 2);
        for (int i = 0; i < 4 && random.nextBoolean() && s >= 0 && s < 4; i++) {
            int at = in(0, 9), v = in(0, 7);
            due("cell(" + s + ", " + at + ", " + v + ")", x.cell(s, at, v), o.cell(s, at, v));
        }
        due("people(" + s + ", " + sort + ", " + from + ", " + n + ")", x.people(s, sort, from, n), o.people(s, sort, from, n));
    }
}
