/** Promises 1 to 4: a new object, set, person, told. */
public final class PeopleTest {
    private static final int MAX = Integer.MAX_VALUE, MIN = Integer.MIN_VALUE;

    public static void main(String[] args) {
        Check c = new Check();
        newObject(c);
        set(c);
        setRefuses(c);
        person(c);
        told(c);
        kinds(c);
        bounds(c);
        c.end();
    }

    private static void newObject(Check c) {
        c.promise("1 a new object");
        AheadOfAFriend x = new AheadOfAFriend();
        int[] counts = {0, 0, 0, 1, 0, 0};
        for (int what = 0; what < 6; what++) {
            c.due("count(" + what + ")", x.count(what), counts[what]);
        }
        for (int p = 0; p < 5; p++) {
            c.due("first(" + p + ")", x.first(p), -1);
        }
        c.due("told(0, 1)", x.told(0, 1), -2);
        c.due("set(1, 0, 0)", x.set(1, 0, 0), -2);
        c.due("back()", x.back(), -3);
        for (int sheet = 0; sheet < 4; sheet++) {
            c.due("cell", x.cell(sheet, 0, 0), -11);
        }
        AheadOfAFriend y = new AheadOfAFriend();
        y.person(0, 0);
        y.set(0, 0, 7);
        c.due("another object's people", x.count(0), 0);
        c.due("another object's minute", x.count(2), 0);
    }

    private static void set(Check c) {
        c.promise("2 set");
        AheadOfAFriend x = new AheadOfAFriend();
        c.due("minute without people, of any", x.set(0, -77, 999), 0);
        c.due("minute back", x.set(0, 99, 0), 999);
        x.person(0, 3);
        x.person(1, 4);
        int[][] edges = {{1, 0, 9, 3}, {3, 0, 99, 0}, {4, 0, 40, 0}};
        for (int[] e : edges) {
            c.due("to the most", x.set(e[0], 0, e[2]), e[3]);
            c.due("to the least", x.set(e[0], 0, e[1]), e[2]);
            c.due("was the least", x.set(e[0], 0, 1), e[1]);
            c.due("told", x.told(0, e[0]), 1);
            c.due("the other's is as it was", x.told(1, e[0]), e[0] == 1 ? 4 : 0);
        }
        c.due("likes all, also those who aren't yet", x.set(2, 0, 30), 0);
        c.due("likes of another", x.set(2, 1, 29), 0);
        c.due("likes none", x.set(2, 0, 0), 30);
        c.due("was none", x.set(2, 0, 16), 0);
        x.person(0, 0);
        x.person(0, 0);
        x.person(0, 0);
        c.due("liked before it came", x.told(4, 9), 2);
    }

    private static void setRefuses(Check c) {
        c.promise("2 set, refusals");
        AheadOfAFriend x = new AheadOfAFriend();
        x.person(0, 3);
        x.person(4, 4);
        String was = Check.state(x);
        int[][] bad = {
            {0, 0, -1}, {0, 0, 1000}, {1, 0, -1}, {1, 0, 10}, {2, 0, -1}, {2, 0, 32}, {2, 0, 1}, {2, 1, 2}, {2, 1, 31},
            {3, 0, -1}, {3, 0, 100}, {4, 0, -1}, {4, 0, 41}, {5, 0, 0}, {-1, 0, 0}, {MAX, 0, 0}, {MIN, 0, 0},
            {1, 2, 0}, {2, 2, 0}, {3, 2, 0}, {4, 2, 0}, {1, -1, 0}, {1, 5, 0}, {1, MAX, 0}, {1, MIN, 0}, {2, 33, 0}};
        for (int[] b : bad) {
            c.due("set(" + b[0] + ", " + b[1] + ", " + b[2] + ")", x.set(b[0], b[1], b[2]), -2);
        }
        c.holds("nothing changed", was.equals(Check.state(x)));
    }

    private static void person(Check c) {
        c.promise("3 person");
        AheadOfAFriend x = new AheadOfAFriend();
        int[][] bad = {{-1, 0}, {6, 0}, {0, -1}, {0, 10}, {MAX, MAX}, {MIN, MIN}};
        for (int[] b : bad) {
            c.due("person(" + b[0] + ", " + b[1] + ")", x.person(b[0], b[1]), -2);
        }
        c.due("nobody came", x.count(0), 0);
        for (int i = 0; i < 5; i++) {
            c.due("person", x.person(5 - i, 2 * i), i);
            c.due("kind", x.told(i, 5), 5 - i);
            c.due("number", x.told(i, 1), 2 * i);
            c.due("likes", x.told(i, 2), 0);
            c.due("gifts", x.told(i, 3), 0);
            c.due("served", x.told(i, 4), 0);
            c.due("last", x.told(i, 6), i);
        }
        c.due("line", Check.line(x), 12345);
        c.due("a sixth", x.person(0, 0), -4);
        c.due("a sixth, badly told", x.person(6, 0), -2);
        c.due("five", x.count(0), 5);
        x.set(4, 0, 40);
        c.due("one leaves", x.minute(), 0);
        c.due("still five people", x.person(0, 0), -4);

        AheadOfAFriend y = new AheadOfAFriend();
        y.person(5, 0);
        y.person(0, 0);
        y.minute();
        c.due("behind who is left", y.person(0, 0), 2);
        c.due("line", Check.line(y), 23);
    }

    private static void told(Check c) {
        c.promise("4 told");
        AheadOfAFriend x = new AheadOfAFriend();
        c.due("minute, of nobody", x.told(-5, 0), 0);
        x.set(0, 0, 41);
        c.due("minute, of nobody", x.told(7, 0), 41);
        x.person(0, 6);
        x.person(3, 2);
        x.person(2, 1);
        x.set(2, 0, 6);
        x.set(2, 2, 3);
        x.set(3, 0, 5);
        x.set(4, 1, 9);
        c.due("number", x.told(1, 1), 2);
        c.due("likes", x.told(0, 2), 6);
        c.due("gifts", x.told(0, 3), 5);
        c.due("served", x.told(1, 4), 9);
        c.due("kind", x.told(2, 5), 2);
        c.due("place", x.told(2, 6), 2);
        c.due("lasts", x.told(0, 7), 9);
        c.due("irks", x.told(1, 8), 3);
        c.due("who like 0", x.told(0, 9), 1);
        c.due("who like 1", x.told(1, 9), 2);
        int[][] minds = {{1, 0, 0, 1, 1}, {0, 1, 0, 1, 1}, {0, 1, 1, 1, 1}};
        for (int one = 0; one < 3; one++) {
            for (int other = 0; other < 5; other++) {
                c.due(one + " minds " + other, x.told(one, 10 + other), minds[one][other]);
            }
        }
        int[][] bad = {{3, 1}, {-1, 1}, {0, -1}, {0, 15}, {MAX, 5}, {MIN, 9}, {0, MAX}, {0, MIN}, {3, 10}, {5, 7}};
        for (int[] b : bad) {
            c.due("told(" + b[0] + ", " + b[1] + ")", x.told(b[0], b[1]), -2);
        }
        AheadOfAFriend y = new AheadOfAFriend();
        y.person(5, 0);
        y.minute();
        c.due("place of who left", y.told(0, 6), -1);
        c.due("served of who left", y.told(0, 4), 1);
    }

    /** MINDS, LASTS, IRKS of each kind, with a text that minds whom one doesn't like, and with one that never does. */
    private static void kinds(Check c) {
        c.promise("4 told, kinds");
        int[] lasts = {7, 9, 3, 9, 7, 1};
        int[] irks = {5, 5, 10, 9, 10, 0};
        for (int kind = 0; kind < 6; kind++) {
            AheadOfAFriend x = new AheadOfAFriend();
            x.force(Check.textOf(x, "minds not liked; lasts 7; irks 5;"));
            int never = Check.textOf(x, "minds 0; lasts 7; irks 5;");
            int always = Check.textOf(x, "minds 0-1; lasts 7; irks 5;");
            x.person(kind, 4);
            x.person(0, 3);
            x.person(0, 4);
            x.set(3, 2, 1);
            c.due("lasts of kind " + kind, x.told(0, 7), lasts[kind]);
            c.due("irks of kind " + kind, x.told(0, 8), irks[kind]);
            int[] stranger = {1, 1, 1, 0, 1, 1};
            c.due("unliked, " + kind, x.told(0, 12), stranger[kind]);
            x.set(2, 0, 6);
            int[] likedNoGifts = {0, 0, 1, 0, 1, 1};
            c.due("liked, no gifts, " + kind, x.told(0, 11), likedNoGifts[kind]);
            int[] likedGifts = {0, 0, 0, 0, 0, 1};
            c.due("liked, gifts, " + kind, x.told(0, 12), likedGifts[kind]);
            x.set(3, 1, 1);
            int[] lesserNumber = {0, 0, 0, 0, 1, 1};
            c.due("liked, gifts, lesser number, " + kind, x.told(0, 11), lesserNumber[kind]);
            x.force(always);
            int[] yesButLiked = {1, 0, 1, 0, 1, 1};
            c.due("liked, the text minds, " + kind, x.told(0, 12), yesButLiked[kind]);
            x.force(never);
            x.set(2, 0, 0);
            c.due("unliked, the text doesn't mind, " + kind, x.told(0, 12), likedGifts[kind]);
        }
    }

    /** The text's value is bounded first, then what the kind makes of it. */
    private static void bounds(Check c) {
        c.promise("4 told, bounds");
        String[] texts = {
            "minds 0; lasts 100; irks 200;", "minds 0; lasts 0-5; irks 0-5;", "minds 0; lasts 1; irks 50;", "minds 0; lasts 0; irks 99;"};
        int[][] lasts = {{40, 40, 20, 40, 29, 1}, {1, 2, 1, 2, 9, 1}, {1, 3, 1, 3, 9, 1}, {1, 2, 1, 2, 9, 1}};
        int[][] irks = {{99, 99, 99, 99, 99, 0}, {0, 0, 0, 9, 0, 0}, {50, 50, 99, 59, 99, 0}, {99, 99, 99, 99, 99, 0}};
        for (int t = 0; t < texts.length; t++) {
            for (int kind = 0; kind < 6; kind++) {
                AheadOfAFriend x = new AheadOfAFriend();
                x.force(Check.textOf(x, texts[t]));
                x.person(kind, 9);
                c.due("lasts, " + texts[t] + " " + kind, x.told(0, 7), lasts[t][kind]);
                c.due("irks, " + texts[t] + " " + kind, x.told(0, 8), irks[t][kind]);
            }
        }
    }
}
