import java.util.ArrayDeque;
import java.util.ArrayList;
import java.util.LinkedHashMap;
import java.util.List;
import java.util.Map;

/** The document told a second time, in the plainest way that the whole Java library allows; ModelTest lays both side by side. */
final class Model {
    /** What an E is worth for one and another one in some land; part 0 minds, 1 lasts, 2 irks. */
    interface Worth {
        int of(Place land, int part, Citizen one, Citizen other);
    }

    static class Citizen implements Cloneable {
        int id;
        int kind;
        int number;
        int likes;
        int gifts;
        int served;

        boolean minds(boolean yes, Citizen other) {
            return yes;
        }

        int lasts(int v) {
            return v;
        }

        int irks(int v) {
            return v;
        }

        boolean likes(Citizen other) {
            return (likes & 1 << other.id) != 0;
        }

        Citizen takenFor(int newKind) {
            Citizen made = make(newKind);
            made.id = id;
            made.kind = newKind;
            made.number = number;
            made.likes = likes;
            made.gifts = gifts;
            made.served = served;
            return made;
        }
    }

    static class Widow extends Citizen {
        @Override
        boolean minds(boolean yes, Citizen other) {
            return super.minds(yes, other) && !likes(other);
        }

        @Override
        int lasts(int v) {
            return super.lasts(v) + 2;
        }
    }

    static class Clerk extends Citizen {
        @Override
        boolean minds(boolean yes, Citizen other) {
            return super.minds(yes, other) || other.gifts == 0;
        }

        @Override
        int lasts(int v) {
            return super.lasts(v) / 2;
        }

        @Override
        int irks(int v) {
            return super.irks(v) * 2;
        }
    }

    static class Bride extends Widow {
        @Override
        boolean minds(boolean yes, Citizen other) {
            return false;
        }

        @Override
        int irks(int v) {
            return super.irks(v) + number;
        }
    }

    static class Hated extends Clerk {
        @Override
        boolean minds(boolean yes, Citizen other) {
            return super.minds(yes, other) || other.number < number;
        }

        @Override
        int lasts(int v) {
            return super.lasts(v) + number;
        }
    }

    static class Stranger extends Citizen {
        @Override
        boolean minds(boolean yes, Citizen other) {
            return true;
        }

        @Override
        int lasts(int v) {
            return 1;
        }

        @Override
        int irks(int v) {
            return 0;
        }
    }

    static final Class<?>[] KINDS = {Citizen.class, Widow.class, Clerk.class, Bride.class, Hated.class, Stranger.class};

    static Citizen make(int kind) {
        switch (kind) {
            case 0: return new Citizen();
            case 1: return new Widow();
            case 2: return new Clerk();
            case 3: return new Bride();
            case 4: return new Hated();
            default: return new Stranger();
        }
    }

    /** All of a land that an image keeps. */
    final class Place {
        int minute;
        Worth[] rule;
        List<Citizen> people = new ArrayList<>();
        List<Integer> line = new ArrayList<>();

        Place copied() {
            Place p = new Place();
            p.minute = minute;
            p.rule = rule;
            for (Citizen c : people) {
                p.people.add(c.takenFor(c.kind));
            }
            p.line.addAll(line);
            return p;
        }

        boolean has(int one) {
            return 0 <= one && one < people.size();
        }

        boolean minds(int one, int other) {
            if (one == other || !has(other)) {
                return true;
            }
            Citizen a = people.get(one);
            Citizen b = people.get(other);
            return a.minds(rule[0].of(this, 0, a, b) != 0, b);
        }

        int lasts(int one) {
            Citizen a = people.get(one);
            int v = Math.min(40, Math.max(0, rule[1].of(this, 1, a, null)));
            return Math.min(40, Math.max(1, a.lasts(v)));
        }

        int irks(int one) {
            Citizen a = people.get(one);
            int v = Math.min(99, Math.max(0, rule[2].of(this, 2, a, null)));
            return Math.min(99, Math.max(0, a.irks(v)));
        }

        int likers(Citizen one) {
            return (int) people.stream().filter(p -> p.likes(one)).count();
        }

        /** The order behind the PASSING of who is at a place, or null. */
        List<Integer> passing(List<Integer> order, int place) {
            if (place < 1) {
                return null;
            }
            int before = order.get(place - 1);
            if (place - 1 == 0 && people.get(before).served > 0 || minds(before, order.get(place))) {
                return null;
            }
            List<Integer> then = new ArrayList<>(order);
            then.add(place - 1, then.remove(place));
            return then;
        }

        Map<List<Integer>, Integer> orders() {
            Map<List<Integer>, Integer> far = new LinkedHashMap<>();
            ArrayDeque<List<Integer>> todo = new ArrayDeque<>();
            far.put(line, 0);
            todo.add(line);
            while (!todo.isEmpty()) {
                List<Integer> now = todo.remove();
                for (int p = 1; p < now.size(); p++) {
                    List<Integer> then = passing(now, p);
                    if (then != null && !far.containsKey(then)) {
                        far.put(then, far.get(now) + 1);
                        todo.add(then);
                    }
                }
            }
            return far;
        }

        int wait(List<Integer> order) {
            int all = 0;
            for (int p = 0; p < order.size(); p++) {
                int till = 0;
                for (int q = 0; q < p; q++) {
                    int needs = lasts(order.get(q));
                    till += q > 0 ? needs : Math.max(1, needs - people.get(order.get(0)).served);
                }
                all += till * irks(order.get(p));
            }
            return all;
        }

        /** The least place and the fewest passings to it. */
        int[] ahead(int one) {
            int[] least = {99, 99};
            orders().forEach((order, far) -> {
                int p = order.indexOf(one);
                if (p >= 0 && (p < least[0] || p == least[0] && far < least[1])) {
                    least[0] = p;
                    least[1] = far;
                }
            });
            return least;
        }

        int goOn() {
            int leaves = -1;
            if (!line.isEmpty()) {
                int one = line.get(0);
                int lasts = lasts(one);
                if (++people.get(one).served >= lasts) {
                    leaves = line.remove(0);
                }
            }
            minute++;
            return leaves;
        }

        int first() {
            return line.isEmpty() ? -1 : line.get(0);
        }

        int otherwise(List<Integer> sheet) {
            Place p = copied();
            for (int i = 0; i < sheet.size(); i++) {
                p.goOn();
                if (sheet.get(i) != p.first()) {
                    return i;
                }
            }
            return -1;
        }

        void draw(int seed) {
            int z = seed;
            for (Citizen c : people) {
                z = z * 1103515245 + 12345;
                c.likes = 0;
                for (int bit = 0; bit < people.size(); bit++) {
                    if (bit != c.id && ((z >>> 9) % 32 & 1 << bit) != 0) {
                        c.likes |= 1 << bit;
                    }
                }
            }
        }
    }

    static int digits(List<Integer> order) {
        StringBuilder b = new StringBuilder("0");
        for (int one : order) {
            b.append(one + 1);
        }
        return Integer.parseInt(b.toString());
    }

    private Place land = new Place();
    private Place kept;
    private final List<Worth[]> texts = new ArrayList<>();
    private final StringBuilder tape = new StringBuilder();
    private final List<List<Integer>> sheets = new ArrayList<>();
    private final int[] sorts = {-1, -1, -1, -1};

    Model() {
        tape.append("minds not liked ; lasts 3 + number ; irks 1 ;");
        text();
        land.rule = texts.get(0);
        for (int i = 0; i < 4; i++) {
            sheets.add(null);
        }
    }

    private Citizen at(int one) {
        return land.people.get(one);
    }

    int set(int what, int of, int v) {
        int[] most = {999, 9, 31, 99, 40};
        if (what < 0 || what > 4 || v < 0 || v > most[what] || what > 0 && !land.has(of)) {
            return -2;
        }
        if (what == 2 && (v & 1 << of) != 0) {
            return -2;
        }
        int was = told(of, what);
        switch (what) {
            case 0: land.minute = v; break;
            case 1: at(of).number = v; break;
            case 2: at(of).likes = v; break;
            case 3: at(of).gifts = v; break;
            default: at(of).served = v;
        }
        return was;
    }

    int person(int kind, int number) {
        if (kind < 0 || kind > 5 || number < 0 || number > 9) {
            return -2;
        }
        if (land.people.size() == 5) {
            return -4;
        }
        Citizen c = make(kind);
        c.id = land.people.size();
        c.kind = kind;
        c.number = number;
        land.people.add(c);
        land.line.add(c.id);
        return c.id;
    }

    int told(int of, int what) {
        if (what == 0) {
            return land.minute;
        }
        if (!land.has(of)) {
            return -2;
        }
        switch (what) {
            case 1: return at(of).number;
            case 2: return at(of).likes;
            case 3: return at(of).gifts;
            case 4: return at(of).served;
            case 5: return at(of).kind;
            case 6: return land.line.indexOf(of);
            case 7: return land.lasts(of);
            case 8: return land.irks(of);
            case 9: return land.likers(at(of));
            case 10: case 11: case 12: case 13: case 14:
                return land.minds(of, what - 10) ? 1 : 0;
            default: return -2;
        }
    }

    int feed(int letter) {
        if (letter < 0 || letter > 255) {
            return -2;
        }
        if (tape.length() == 160) {
            return -4;
        }
        tape.append((char) letter);
        return tape.length();
    }

    int text() {
        if (texts.size() == 6) {
            return -4;
        }
        ModelText read = new ModelText(tape.toString());
        tape.setLength(0);
        if (read.fault >= 0) {
            return -100 - read.fault;
        }
        texts.add(read.parts);
        return texts.size() - 1;
    }

    int force(int text) {
        if (text < 0 || text >= texts.size()) {
            return -2;
        }
        int was = texts.indexOf(land.rule);
        land.rule = texts.get(text);
        return was;
    }

    int first(int on) {
        return on < 0 || on > 4 ? -2 : on < land.line.size() ? land.line.get(on) : -1;
    }

    int pass(int one) {
        if (!land.has(one)) {
            return -2;
        }
        int place = land.line.indexOf(one);
        List<Integer> then = land.passing(land.line, place);
        if (then == null) {
            return -3;
        }
        land.line = then;
        return place - 1;
    }

    int haste() {
        int did = 0;
        for (int one : new ArrayList<>(land.line)) {
            if (land.line.indexOf(one) > 0 && pass(one) >= 0) {
                did++;
            }
        }
        return did;
    }

    int minute() {
        return land.minute == 999 ? -3 : land.goOn();
    }

    int come(int one) {
        if (!land.has(one)) {
            return -2;
        }
        if (land.line.contains(one)) {
            return -3;
        }
        at(one).served = 0;
        land.line.add(one);
        return land.line.size() - 1;
    }

    int orders(int what) {
        if (what < 0 || what > 6) {
            return -2;
        }
        Map<List<Integer>, Integer> all = land.orders();
        List<List<Integer>> sorted = new ArrayList<>(all.keySet());
        Map<List<Integer>, Integer> waits = new LinkedHashMap<>();
        sorted.forEach(o -> waits.put(o, land.wait(o)));
        sorted.sort((a, b) -> {
            int w = Integer.compare(waits.get(a), waits.get(b));
            int f = Integer.compare(all.get(a), all.get(b));
            return w != 0 ? w : f != 0 ? f : Integer.compare(digits(a), digits(b));
        });
        switch (what) {
            case 0: return all.size();
            case 1: return land.wait(land.line);
            case 2: return digits(sorted.get(0));
            case 3: return waits.get(sorted.get(0));
            case 4: return all.get(sorted.get(0));
            case 5: return walls(all);
            default: return rings();
        }
    }

    private int walls(Map<List<Integer>, Integer> all) {
        int bits = 0;
        for (int one : land.line) {
            boolean wall = true;
            for (List<Integer> order : all.keySet()) {
                int behind = order.indexOf(one) + 1;
                if (behind < order.size() && land.passing(order, behind) != null) {
                    wall = false;
                }
            }
            bits |= wall ? 1 << one : 0;
        }
        return bits;
    }

    private int rings() {
        int many = 0;
        for (int a : land.line) {
            for (int b : land.line) {
                if (a < b && !land.minds(a, b) && !land.minds(b, a)) {
                    many++;
                }
            }
        }
        return many;
    }

    int fewest(int digits) {
        if (digits < 0) {
            return -2;
        }
        for (Map.Entry<List<Integer>, Integer> e : land.orders().entrySet()) {
            if (digits(e.getKey()) == digits) {
                return e.getValue();
            }
        }
        return -1;
    }

    int ahead(int one, int what) {
        if (!land.has(one) || what < 0 || what > 2) {
            return -2;
        }
        if (!land.line.contains(one)) {
            return -1;
        }
        int[] now = land.ahead(one);
        if (what < 2) {
            return now[what];
        }
        int least = now[0];
        int friend = -1;
        for (int other = 0; other < land.people.size(); other++) {
            if (other != one && land.line.contains(other)) {
                Place p = land.copied();
                p.people.get(other).likes |= 1 << one;
                if (p.ahead(one)[0] < least) {
                    least = p.ahead(one)[0];
                    friend = other;
                }
            }
        }
        return friend;
    }

    int run(int n, int what) {
        if (n < 0 || n > 60 || what != 0 && what != 1 && (what < 10 || !land.has(what - 10))) {
            return -2;
        }
        Place p = land.copied();
        List<Integer> left = new ArrayList<>();
        for (int i = 0; i < n; i++) {
            left.add(p.goOn());
        }
        return what == 0 ? p.line.size() : what == 1 ? p.first() : left.indexOf(what - 10);
    }

    int tells(int sheet, int one, int what) {
        if (sheet < 0 || sheet > 3 || !land.has(one) || what < 0 || what > 5) {
            return -2;
        }
        List<Integer> row = sheets.get(sheet);
        if (row == null) {
            return -11;
        }
        if (row.size() > 30) {
            return -2;
        }
        if (what == 0) {
            return land.otherwise(row);
        }
        int[] most = {0, 6, 10, 41, 41, texts.size()};
        List<Integer> so = new ArrayList<>();
        for (int v = 0; v < most[what]; v++) {
            Place p = land.copied();
            switch (what) {
                case 1: p.people.set(one, p.people.get(one).takenFor(v)); break;
                case 2: p.people.get(one).number = v; break;
                case 5: p.rule = texts.get(v); break;
                default: p.people.get(one).served = v;
            }
            if (p.otherwise(row) == -1) {
                so.add(v);
            }
        }
        if (what == 3) {
            return so.size();
        }
        if (what == 4) {
            return so.isEmpty() ? -1 : so.get(0);
        }
        return so.stream().mapToInt(v -> 1 << v).sum();
    }

    int film(int sheet, int n) {
        if (sheet < 0 || sheet > 3 || n < 0 || n > 30) {
            return -2;
        }
        Place p = land.copied();
        List<Integer> row = new ArrayList<>();
        for (int i = 0; i < n; i++) {
            p.goOn();
            row.add(p.first());
        }
        sheets.set(sheet, row);
        sorts[sheet] = 0;
        return n;
    }

    int drawn(int seed) {
        Place p = land.copied();
        p.draw(seed);
        return p.orders().size();
    }

    long chance(int seed, int m, int one, int part) {
        if (m < 1 || m > 10 || !land.has(one) || part < 0 || part > 1) {
            return -4611686018427387904L;
        }
        int good = 0;
        for (int i = 0; i < m; i++) {
            Place p = land.copied();
            p.draw(seed + i);
            good += p.ahead(one)[0] == 0 ? 1 : 0;
        }
        long common = java.math.BigInteger.valueOf(good).gcd(java.math.BigInteger.valueOf(m)).longValue();
        return (part == 0 ? good : m) / common;
    }

    int image() {
        kept = land.copied();
        return land.people.size();
    }

    int back() {
        if (kept == null) {
            return -3;
        }
        land = kept.copied();
        return land.people.size();
    }

    int count(int what) {
        switch (what) {
            case 0: return land.people.size();
            case 1: return land.line.size();
            case 2: return land.minute;
            case 3: return texts.size();
            case 4: return tape.length();
            case 5: return texts.indexOf(land.rule);
            default: return -2;
        }
    }

    int sheet(int sheet, int sort, int n) {
        if (sheet < 0 || sheet > 3 || sort < -1 || sort > 2) {
            return -2;
        }
        if (sort >= 0 && n > 40) {
            return -2;
        }
        if (sort >= 0 && n < 0) {
            return -14;
        }
        sorts[sheet] = sort;
        sheets.set(sheet, sort < 0 ? null : new ArrayList<>(java.util.Collections.nCopies(n, 0)));
        return 1;
    }

    int cell(int sheet, int i, int v) {
        if (sheet < 0 || sheet > 3) {
            return -2;
        }
        List<Integer> row = sheets.get(sheet);
        if (row == null) {
            return -11;
        }
        if (i < 0 || i >= row.size()) {
            return -12;
        }
        row.set(i, sorts[sheet] == 0 ? Integer.valueOf((byte) v) : sorts[sheet] == 1 ? Integer.valueOf((short) v) : Integer.valueOf(v));
        return 1;
    }

    int copy(int sheet, int i, int other, int j, int n) {
        if (sheet < 0 || sheet > 3 || other < 0 || other > 3) {
            return -2;
        }
        List<Integer> a = sheets.get(sheet);
        List<Integer> b = sheets.get(other);
        if (a == null || b == null) {
            return -11;
        }
        if (sorts[sheet] != sorts[other]) {
            return -13;
        }
        if (i < 0 || j < 0 || n < 0 || (long) i + n > a.size() || (long) j + n > b.size()) {
            return -12;
        }
        List<Integer> were = new ArrayList<>(a.subList(i, i + n));
        for (int k = 0; k < n; k++) {
            b.set(j + k, were.get(k));
        }
        return n;
    }

    int people(int sheet, int sort, int from, int n) {
        if (sheet < 0 || sheet > 3 || sort < 0 || sort > 2 || n < 0 || n > 5) {
            return -2;
        }
        List<Integer> row = sheets.get(sheet);
        if (row != null && sorts[sheet] != sort) {
            return -13;
        }
        if (row == null) {
            return -11;
        }
        int came = 0;
        for (long i = from; i < from + 2L * n; i += 2) {
            if (i < 0 || i + 1 >= row.size()) {
                return -12;
            }
            came += person(row.get((int) i), row.get((int) i + 1)) >= 0 ? 1 : 0;
        }
        return came;
    }

    int taken(int one, int k) {
        if (k < 0 || k > 5) {
            return -2;
        }
        if (!land.has(one)) {
            return -11;
        }
        return KINDS[k].isInstance(at(one)) ? at(one).number : -13;
    }
}
