import java.util.Random;

/** Drawn runs of up to 512 calls on an object and on a Model: each answer is the same one. Seeds are told, so runs are too. */
public final class ModelTest {
    private static final int RUNS = 3000;

    private final AheadOfAFriend x = new AheadOfAFriend();
    private final Model m = new Model();
    private final Random random;
    private final Check c;
    private int calls = 0;

    private ModelTest(Check c, long seed) {
        this.c = c;
        random = new Random(seed);
    }

    public static void main(String[] args) {
        Check c = new Check();
        for (int seed = 0; seed < RUNS; seed++) {
            c.promise("run " + seed);
            ModelTest run = new ModelTest(c, seed);
            run.begin();
            while (run.calls < 480) {
                run.call();
            }
        }
        texts(c);
        c.end();
    }

    private void same(String call, long got, long want) {
        calls++;
        c.due(calls + " " + call, got, want);
    }

    /** Mostly from 0 to below n, now and then something else. */
    private int some(int n) {
        int way = random.nextInt(40);
        if (way == 0) {
            return new int[] {-1, n, n + 1, Integer.MAX_VALUE, Integer.MIN_VALUE, -2, 1000}[random.nextInt(7)];
        }
        return random.nextInt(n);
    }

    private int likes(int of) {
        int bits = random.nextInt(32) | (random.nextBoolean() ? random.nextInt(32) : 0);
        return random.nextInt(30) == 0 || of < 0 || of > 4 ? bits : bits & ~(1 << of);
    }

    private void begin() {
        if (random.nextInt(3) > 0) {
            feed(ModelTest.drawText(random, false));
        }
        if (random.nextInt(3) > 0) {
            force(1);
        }
        int people = random.nextInt(6);
        for (int i = 0; i < people; i++) {
            person(random.nextInt(6), random.nextInt(10));
            set(2, i, likes(i));
            set(3, i, random.nextInt(3));
        }
    }

    private void person(int kind, int number) {
        same("person(" + kind + ", " + number + ")", x.person(kind, number), m.person(kind, number));
    }

    private void set(int what, int of, int v) {
        same("set(" + what + ", " + of + ", " + v + ")", x.set(what, of, v), m.set(what, of, v));
    }

    private void force(int text) {
        same("force(" + text + ")", x.force(text), m.force(text));
    }

    private void feed(String s) {
        for (int i = 0; i < s.length() && calls < 470; i++) {
            int letter = s.charAt(i);
            same("feed(" + letter + ")", x.feed(letter), m.feed(letter));
        }
        same("text()", x.text(), m.text());
    }

    private void call() {
        int a = some(5);
        int b = some(5);
        switch (random.nextInt(30)) {
            case 0: setSome(); break;
            case 1: person(some(6), some(10)); break;
            case 2: case 3: toldSome(a); break;
            case 4: feedSome(); break;
            case 5: force(some(3)); break;
            case 6: same("first(" + a + ")", x.first(a), m.first(a)); break;
            case 7: case 8: same("pass(" + a + ")", x.pass(a), m.pass(a)); break;
            case 9: same("haste()", x.haste(), m.haste()); break;
            case 10: case 11: minuteOrCome(a); break;
            case 12: case 13: ordersSome(); break;
            case 14: fewestSome(); break;
            case 15: case 16: same("ahead(" + a + ", " + b % 3 + ")", x.ahead(a, b % 3), m.ahead(a, b % 3)); break;
            case 17: case 18: runSome(); break;
            case 19: case 20: case 21: tellsSome(); break;
            case 22: filmSome(); break;
            case 23: chanceSome(); break;
            case 24: imageOrBack(); break;
            case 25: countSome(); break;
            default: host(); break;
        }
    }

    private void setSome() {
        int what = some(5);
        int of = some(5);
        int[] most = {1000, 10, 32, 4, 41};
        int v = what == 2 ? likes(of) : some(what >= 0 && what < 5 ? most[what] : 9);
        set(what, of, what == 4 && random.nextBoolean() ? random.nextInt(4) : what == 0 && random.nextBoolean() ? 990 + random.nextInt(10) : v);
    }

    private void toldSome(int of) {
        int what = some(15);
        same("told(" + of + ", " + what + ")", x.told(of, what), m.told(of, what));
    }

    private void feedSome() {
        if (random.nextInt(12) == 0 && calls < 380) {
            feed(drawText(random, random.nextInt(3) == 0));
        } else {
            int letter = some(256);
            same("feed(" + letter + ")", x.feed(letter), m.feed(letter));
            if (random.nextBoolean()) {
                same("text()", x.text(), m.text());
            }
        }
    }

    private void minuteOrCome(int a) {
        if (random.nextInt(3) > 0) {
            same("come(" + a + ")", x.come(a), m.come(a));
        } else {
            same("minute()", x.minute(), m.minute());
        }
    }

    private void ordersSome() {
        int what = some(7);
        same("orders(" + what + ")", x.orders(what), m.orders(what));
    }

    private void fewestSome() {
        java.util.List<Integer> line = new java.util.ArrayList<>();
        for (int p = 0; p < 5; p++) {
            if (x.first(p) >= 0) {
                line.add(x.first(p));
            }
        }
        calls += 10;
        java.util.Collections.shuffle(line, random);
        int digits = Model.digits(line) + (random.nextInt(20) == 0 ? some(100000) : 0);
        same("fewest(" + digits + ")", x.fewest(digits), m.fewest(digits));
    }

    private void runSome() {
        int n = some(61);
        int what = random.nextInt(3) == 0 ? some(3) : 10 + some(5);
        same("run(" + n + ", " + what + ")", x.run(n, what), m.run(n, what));
    }

    private void tellsSome() {
        int sheet = some(4);
        int one = some(5);
        int what = some(6);
        same("tells(" + sheet + ", " + one + ", " + what + ")", x.tells(sheet, one, what), m.tells(sheet, one, what));
    }

    private void filmSome() {
        int sheet = some(4);
        int n = random.nextInt(4) == 0 ? some(31) : random.nextInt(8);
        same("film(" + sheet + ", " + n + ")", x.film(sheet, n), m.film(sheet, n));
    }

    private void chanceSome() {
        int seed = random.nextInt();
        int n = 1 + some(10);
        int one = some(5);
        int part = some(2);
        same("drawn(" + seed + ")", x.drawn(seed), m.drawn(seed));
        same("chance(" + seed + ", " + n + ", " + one + ", " + part + ")", x.chance(seed, n, one, part), m.chance(seed, n, one, part));
    }

    private void imageOrBack() {
        if (random.nextInt(4) == 0) {
            same("image()", x.image(), m.image());
        } else if (random.nextInt(3) == 0) {
            same("back()", x.back(), m.back());
        }
        calls++;
    }

    private void countSome() {
        int what = some(6);
        same("count(" + what + ")", x.count(what), m.count(what));
    }

    private void host() {
        int s = some(4);
        int o = some(4);
        int i = some(10);
        int j = some(10);
        int v = random.nextInt(4) == 0 ? random.nextInt() : some(6) - (random.nextInt(4) == 0 ? 1 : 0);
        int sort = random.nextInt(30) == 0 ? some(4) : random.nextInt(20) == 0 ? -1 : random.nextInt(3) == 0 ? 1 : 0;
        switch (random.nextInt(7)) {
            case 0: {
                int n = random.nextInt(5) == 0 ? some(41) : random.nextInt(12);
                same("sheet(" + s + ", " + sort + ", " + n + ")", x.sheet(s, sort, n), m.sheet(s, sort, n));
                break;
            }
            case 1: case 2: case 3:
                same("cell(" + s + ", " + i + ", " + v + ")", x.cell(s, i, v), m.cell(s, i, v));
                break;
            case 4: {
                int n = some(7);
                same("copy(" + s + ", " + i + ", " + o + ", " + j + ", " + n + ")", x.copy(s, i, o, j, n), m.copy(s, i, o, j, n));
                break;
            }
            case 5: {
                int n = some(6);
                same("people(" + s + ", " + sort + ", " + i + ", " + n + ")", x.people(s, sort, i, n), m.people(s, sort, i, n));
                break;
            }
            default: {
                int k = some(6);
                same("taken(" + s + ", " + k + ")", x.taken(s, k), m.taken(s, k));
            }
        }
    }

    // ---- drawn texts

    private static String pick(Random r, String... of) {
        return of[r.nextInt(of.length)];
    }

    private static String e(Random r, int depth) {
        String blank = pick(r, "", " ");
        if (depth <= 0 || r.nextInt(5) == 0) {
            return pick(r, "liked", "number", "theirs", "minute", "gifts", "errand", "0", "1", "2", "3", "7", "12", "9999", String.valueOf(r.nextInt(10000)));
        }
        switch (r.nextInt(9)) {
            case 0: return e(r, depth - 1) + " or " + e(r, depth - 1);
            case 1: return e(r, depth - 1) + " and " + e(r, depth - 1);
            case 2: return "(not " + e(r, depth - 1) + ")";
            case 3: return "(" + e(r, depth - 1) + blank + pick(r, "<", "=") + e(r, depth - 1) + ")";
            case 4: return e(r, depth - 1) + pick(r, "+", "-") + blank + e(r, depth - 1);
            case 5: return e(r, depth - 1) + "*" + e(r, depth - 1);
            case 6: return "-" + blank + e(r, depth - 1);
            case 7: return "(" + e(r, depth - 1) + ")";
            default: return "not " + e(r, depth - 1);
        }
    }

    static String drawText(Random r, boolean broken) {
        String lasts = r.nextBoolean() ? pick(r, "1+number", "3", "2+liked", "1+(minute<3)*4", "errand+2", "number-gifts") : e(r, 2);
        String s = "minds " + (r.nextBoolean() ? e(r, 3) : "not liked") + ";lasts " + lasts + ";irks " + e(r, 1) + ";";
        if (broken) {
            StringBuilder b = new StringBuilder(s);
            for (int i = r.nextInt(3); i >= 0; i--) {
                int at = r.nextInt(b.length());
                if (r.nextBoolean()) {
                    b.deleteCharAt(at);
                } else {
                    b.insert(at, pick(r, "(", ")", "-", "*", ";", "<", "=", " not ", " ", "\n", "1", "x", " or ", "#", "\t", "-(", "\u00ff"));
                }
            }
            s = b.toString();
        }
        return s.length() > 160 ? s.substring(0, 160) : s;
    }

    /** Many texts, whole and broken, on objects of their own: the same FAULT, and the same worth. */
    private static void texts(Check c) {
        Random r = new Random(4711);
        for (int i = 0; i < 60000; i++) {
            String s = drawText(r, i % 2 == 0);
            AheadOfAFriend x = new AheadOfAFriend();
            Model m = new Model();
            for (int k = 0; k < s.length(); k++) {
                x.feed(s.charAt(k));
                m.feed(s.charAt(k));
            }
            c.promise("text \"" + s + "\"");
            c.due("text()", x.text(), m.text());
            x.force(1);
            m.force(1);
            for (int p = 0; p < 3; p++) {
                int kind = r.nextInt(6);
                int number = r.nextInt(10);
                x.person(kind, number);
                m.person(kind, number);
                int likes = r.nextInt(32) & ~(1 << p);
                x.set(2, p, likes);
                m.set(2, p, likes);
            }
            for (int what = 7; what < 13; what++) {
                c.due("told", x.told(0, what), m.told(0, what));
            }
            c.due("orders", x.orders(3), m.orders(3));
        }
    }
}
