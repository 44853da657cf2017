import java.util.ArrayList;
import java.util.List;
import java.util.Set;
import java.util.regex.Matcher;
import java.util.regex.Pattern;

/** A TEXT read for Model: first all tokens, then the grammar over them; what is open is a list handed down. */
final class ModelText {
    private static final Set<String> KNOWN = Set.of(
        "minds", "lasts", "irks", "or", "and", "not", "liked", "number", "theirs", "minute", "gifts", "errand");
    private static final Set<String> NAMES = Set.of("liked", "number", "theirs", "minute", "gifts", "errand");

    private static final class Fault extends RuntimeException {
        private static final long serialVersionUID = 1L;
    }

    int fault = -1;
    final Model.Worth[] parts = new Model.Worth[3];
    private final List<String> tokens = new ArrayList<>();
    private final List<Integer> places = new ArrayList<>();
    private int now = 0;

    ModelText(String s) {
        Matcher m = Pattern.compile("[a-z]+|[0-9]+|[();+*<=-]|[ \n]+|.", Pattern.DOTALL).matcher(s);
        while (m.find()) {
            String t = m.group();
            if (t.isBlank() && t.matches("[ \n]+")) {
                continue;
            }
            boolean wrong = t.matches("[a-z]+") && !KNOWN.contains(t) || t.matches("[0-9]{5,}") || !t.matches("[a-z]+|[0-9]+|[();+*<=-]");
            tokens.add(wrong ? "wrong!" : t);
            places.add(m.start());
        }
        tokens.add("end!");
        places.add(s.length());
        try {
            String[] keys = {"minds", "lasts", "irks"};
            for (int part = 0; part < 3; part++) {
                want(keys[part]);
                parts[part] = or(0);
                want(";");
            }
            want("end!");
        } catch (Fault f) {
            fault = places.get(now);
        }
    }

    private boolean is(String t) {
        return tokens.get(now).equals(t);
    }

    private boolean take(String t) {
        if (is(t)) {
            now++;
            return true;
        }
        return false;
    }

    private void want(String t) {
        if (!take(t)) {
            throw new Fault();
        }
    }

    private static void room(int open) {
        if (open >= 5) {
            throw new Fault();
        }
    }

    private Model.Worth or(int open) {
        Model.Worth left = and(open);
        while (take("or")) {
            Model.Worth a = left;
            Model.Worth b = and(open);
            left = (l, p, x, y) -> a.of(l, p, x, y) != 0 | b.of(l, p, x, y) != 0 ? 1 : 0;
        }
        return left;
    }

    private Model.Worth and(int open) {
        Model.Worth left = not(open);
        while (take("and")) {
            Model.Worth a = left;
            Model.Worth b = not(open);
            left = (l, p, x, y) -> a.of(l, p, x, y) != 0 & b.of(l, p, x, y) != 0 ? 1 : 0;
        }
        return left;
    }

    private Model.Worth not(int open) {
        if (is("not")) {
            room(open);
            now++;
            Model.Worth a = not(open + 1);
            return (l, p, x, y) -> a.of(l, p, x, y) == 0 ? 1 : 0;
        }
        Model.Worth a = sum(open);
        if (take("<")) {
            Model.Worth b = sum(open);
            return (l, p, x, y) -> a.of(l, p, x, y) < b.of(l, p, x, y) ? 1 : 0;
        }
        if (take("=")) {
            Model.Worth b = sum(open);
            return (l, p, x, y) -> a.of(l, p, x, y) == b.of(l, p, x, y) ? 1 : 0;
        }
        return a;
    }

    private Model.Worth sum(int open) {
        Model.Worth left = term(open);
        while (is("+") || is("-")) {
            int sign = take("+") ? 1 : -1;
            if (sign < 0) {
                now++;
            }
            Model.Worth a = left;
            Model.Worth b = term(open);
            left = (l, p, x, y) -> a.of(l, p, x, y) + sign * b.of(l, p, x, y);
        }
        return left;
    }

    private Model.Worth term(int open) {
        Model.Worth left = one(open);
        while (take("*")) {
            Model.Worth a = left;
            Model.Worth b = one(open);
            left = (l, p, x, y) -> a.of(l, p, x, y) * b.of(l, p, x, y);
        }
        return left;
    }

    private Model.Worth one(int open) {
        String t = tokens.get(now);
        if (t.matches("[0-9]+")) {
            now++;
            int v = Integer.parseInt(t);
            return (l, p, x, y) -> v;
        }
        if (NAMES.contains(t)) {
            now++;
            return name(t);
        }
        if (is("-")) {
            room(open);
            now++;
            Model.Worth a = one(open + 1);
            return (l, p, x, y) -> -a.of(l, p, x, y);
        }
        if (is("(")) {
            room(open);
            now++;
            Model.Worth a = or(open + 1);
            want(")");
            return a;
        }
        throw new Fault();
    }

    private static Model.Worth name(String t) {
        switch (t) {
            case "liked": return (l, p, x, y) -> p > 0 ? l.likers(x) : x.likes(y) ? 1 : 0;
            case "number": return (l, p, x, y) -> x.number;
            case "theirs": return (l, p, x, y) -> p > 0 ? 0 : y.number;
            case "minute": return (l, p, x, y) -> l.minute;
            case "gifts": return (l, p, x, y) -> p > 0 ? x.gifts : y.gifts;
            default: return (l, p, x, y) -> x.served;
        }
    }
}
