import java.lang.reflect.Constructor;
import java.lang.reflect.Field;
import java.lang.reflect.Method;
import java.lang.reflect.Modifier;
import java.nio.file.Files;
import java.nio.file.Path;
import java.util.Arrays;
import java.util.Set;
import java.util.TreeSet;
import java.util.regex.Matcher;
import java.util.regex.Pattern;

/** The public face of the document, and the words that LANGUAGE.md leaves out; RulesTest looks at its other rules. */
public final class LanguageTest {
    private static final String[] FACE = {
        "int set(int, int, int)", "int person(int, int)", "int told(int, int)", "int feed(int)", "int text()", "int force(int)",
        "int first(int)", "int pass(int)", "int haste()", "int minute()", "int come(int)", "int orders(int)", "int fewest(int)",
        "int ahead(int, int)", "int run(int, int)", "int tells(int, int, int)", "int film(int, int)", "int drawn(int)",
        "long chance(int, int, int, int)", "int image()", "int back()", "int count(int)", "int sheet(int, int, int)",
        "int cell(int, int, int)", "int copy(int, int, int, int, int)", "int people(int, int, int, int)", "int taken(int, int)"};

    public static void main(String[] args) throws Exception {
        Check c = new Check();
        face(c);
        constants(c);
        classes(c);
        source(c);
        c.end();
    }

    private static String told(Method m) {
        StringBuilder b = new StringBuilder(m.getReturnType().getSimpleName()).append(' ').append(m.getName()).append('(');
        for (int i = 0; i < m.getParameterCount(); i++) {
            b.append(i == 0 ? "" : ", ").append(m.getParameterTypes()[i].getSimpleName());
        }
        return b.append(')').toString();
    }

    private static void face(Check c) {
        c.promise("rule 1, the face");
        Set<String> open = new TreeSet<>();
        Set<String> names = new TreeSet<>();
        for (Method m : AheadOfAFriend.class.getDeclaredMethods()) {
            if (Modifier.isPublic(m.getModifiers())) {
                open.add(told(m));
                names.add(m.getName());
            }
        }
        c.holds("methods are " + open, open.equals(new TreeSet<>(Arrays.asList(FACE))));
        for (Method m : AheadOfAFriend.class.getDeclaredMethods()) {
            boolean hidden = Modifier.isPrivate(m.getModifiers());
            c.holds(m + " is public or private", hidden || Modifier.isPublic(m.getModifiers()));
            c.holds(m + " bears a name of its own", !hidden || !names.contains(m.getName()));
        }
        for (Class<?> k : AheadOfAFriend.class.getDeclaredClasses()) {
            for (Method m : k.getDeclaredMethods()) {
                c.holds(m + " bears a name of its own", !names.contains(m.getName()));
            }
        }
        Constructor<?>[] made = AheadOfAFriend.class.getDeclaredConstructors();
        c.holds("one public constructor without parameters", made.length == 1 && Modifier.isPublic(made[0].getModifiers()) && made[0].getParameterCount() == 0);
        c.holds("final", Modifier.isFinal(AheadOfAFriend.class.getModifiers()) && Modifier.isPublic(AheadOfAFriend.class.getModifiers()));
    }

    private static void constants(Check c) throws Exception {
        c.promise("rules 1 and 5, fields");
        Set<String> open = new TreeSet<>();
        for (Field f : AheadOfAFriend.class.getDeclaredFields()) {
            if (Modifier.isPublic(f.getModifiers())) {
                open.add(f.getType() + " " + f.getName() + " " + f.get(null));
            } else {
                c.holds(f + " is private", Modifier.isPrivate(f.getModifiers()));
            }
            c.holds(f + " is final if static", !Modifier.isStatic(f.getModifiers()) || Modifier.isFinal(f.getModifiers()));
        }
        Set<String> due = new TreeSet<>(Arrays.asList("int NONE -1", "int BAD -2", "int STATE -3", "int FULL -4", "long NO -4611686018427387904"));
        c.holds("constants are " + open, open.equals(due));
    }

    private static void classes(Check c) {
        c.promise("rules 1, 2 and 5, classes");
        for (Class<?> k : AheadOfAFriend.class.getDeclaredClasses()) {
            c.holds(k + " is static, and not public", Modifier.isStatic(k.getModifiers()) && (k.getModifiers() & (Modifier.PUBLIC | Modifier.PROTECTED)) == 0);
            for (Field f : k.getDeclaredFields()) {
                c.holds(f + " is final if static", !Modifier.isStatic(f.getModifiers()) || Modifier.isFinal(f.getModifiers()));
            }
        }
    }

    /** The source without comments, and without what stands in quotes. */
    private static String bare() throws Exception {
        String s = Files.readString(Path.of("src/main/java/AheadOfAFriend.java"));
        s = s.replaceAll("(?s)/\\*.*?\\*/", "").replaceAll("//[^\n]*", "");
        return s.replaceAll("\"[^\"\n]*\"", "\"\"").replaceAll("'[^'\n]'", "' '");
    }

    private static void source(Check c) throws Exception {
        c.promise("rules 4, 6 and 13, words");
        String s = bare();
        String[] words = {
            "throw", "throws", "try", "catch", "finally", "synchronized", "assert", "import", "package", "volatile", "native",
            "Random", "Thread", "Object", "HashMap", "Exception", "hashCode", "toString", "equals", "double", "float"};
        for (String w : words) {
            c.holds("no " + w, !Pattern.compile("\\b" + w + "\\b").matcher(s).find());
        }
        c.holds("no lambda", !s.contains("->"));
        c.holds("no method reference", !s.contains("::"));
        c.holds("no static block", !Pattern.compile("static\\s*\\{").matcher(s).find());
        c.holds("no endless loop", !Pattern.compile("while\\s*\\(true\\)|for\\s*\\(\\s*;").matcher(s).find());
        c.holds("no class of the system but arraycopy's", !Pattern.compile("\\bSystem\\.(?!arraycopy\\b)").matcher(s).find());
        Matcher m = Pattern.compile("\\bnew ([A-Za-z]+)").matcher(s);
        Set<String> made = new TreeSet<>();
        while (m.find()) {
            made.add(m.group(1));
        }
        for (String k : made) {
            c.holds("own classes and rows are made alone: " + k, k.equals("int") || k.equals("boolean") || s.contains("class " + k + " {"));
        }
    }
}
