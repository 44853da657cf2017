import java.util.Arrays;
import java.util.function.Supplier;

/** A refused call answers the first refusal that its words name, and changes nothing (but for what came ahead of it). */
public final class RefusalTest {
    private static final int MAX = Integer.MAX_VALUE, MIN = Integer.MIN_VALUE;
    private static final int BAD = -2, STATE = -3, FULL = -4;

    private final Check c;
    private final Supplier<AheadOfAFriend> maker;
    private final String untouched;

    private RefusalTest(Check c, Supplier<AheadOfAFriend> maker) {
        this.c = c;
        this.maker = maker;
        untouched = Probe.all(maker.get());
    }

    public static void main(String[] args) {
        Check c = new Check();
        theProbeSees(c);
        RefusalTest some = new RefusalTest(c, RefusalTest::some);
        some.people();
        some.texts();
        some.line();
        some.orders();
        some.told();
        some.sheets();
        some.copies();
        some.peopleBySheet();
        some.taken();
        some.asked();
        new RefusalTest(c, RefusalTest::full).whenFull();
        new RefusalTest(c, AheadOfAFriend::new).whenNew();
        cameAhead(c);
        faultIsNoRefusal(c);
        c.end();
    }

    /** Three people of whom one left, an image of two, two TEXTS, one more on THE TAPE, SHEETS of all sorts, one missing. */
    private static AheadOfAFriend some() {
        AheadOfAFriend x = new AheadOfAFriend();
        x.person(0, 4);
        x.person(2, 3);
        x.set(2, 0, 2);
        x.set(3, 1, 1);
        Check.textOf(x, "minds 1;lasts 2;irks 3;");
        x.force(1);
        x.image();
        x.force(0);
        x.person(3, 5);
        x.set(2, 1, 4);
        x.set(2, 2, 3);
        x.set(4, 0, 40);
        x.minute();
        x.set(0, 0, 7);
        x.set(4, 1, 2);
        Check.feedAll(x, "minds 0;lasts 5;irks 6;");
        Check.lay(x, 0, 0, 0, 3, 1, 4);
        Check.lay(x, 1, 1, 2, 5, 3);
        x.sheet(2, 2, 31);
        x.cell(2, 30, 5);
        return x;
    }

    /** Five people, six TEXTS, a full THE TAPE, the last MINUTE. */
    private static AheadOfAFriend full() {
        AheadOfAFriend x = new AheadOfAFriend();
        x.person(5, 9);
        x.image();
        for (int i = 1; i < 5; i++) {
            x.person(i, i);
            Check.textOf(x, "minds 1;lasts " + i + ";irks 1;");
        }
        Check.textOf(x, "minds 1;lasts 9;irks 1;");
        x.force(5);
        Check.feedAll(x, "minds 1;lasts 7;irks 1;" + " ".repeat(137));
        x.set(0, 0, 999);
        return x;
    }

    private void refused(long due, String name, int... a) {
        String call = name + Arrays.toString(a);
        AheadOfAFriend x = maker.get();
        c.due(call, Probe.call(x, name, a), due);
        c.holds(call + " changed nothing", Probe.all(x).equals(untouched));
    }

    /** A call that isn't refused and yet changes nothing. */
    private void onlyAsked(String name, int... a) {
        String call = name + Arrays.toString(a);
        AheadOfAFriend x = maker.get();
        long answer = Probe.call(x, name, a);
        c.holds(call + " is answered", answer != BAD && answer != AheadOfAFriend.NO && answer > -11);
        c.holds(call + " changed nothing", Probe.all(x).equals(untouched));
    }

    /** Were the probe blind for something, a refusal that changes it would go unseen. */
    private static void theProbeSees(Check c) {
        c.promise("the probe");
        String untouched = Probe.all(some());
        Object[][] calls = {
            {"set", 0, 0, 8}, {"set", 1, 0, 5}, {"set", 1, 2, 6}, {"set", 2, 0, 4}, {"set", 2, 1, 8}, {"set", 3, 0, 1}, {"set", 4, 0, 0},
            {"set", 4, 2, 1}, {"person", 0, 0}, {"feed", 32}, {"text"}, {"force", 1}, {"minute"}, {"come", 0}, {"film", 3, 0},
            {"image"}, {"back"}, {"sheet", 0, 0, 4}, {"sheet", 0, -1, 0}, {"sheet", 3, 0, 0}, {"cell", 0, 3, 5}, {"cell", 1, 1, 4},
            {"cell", 2, 30, 4}, {"cell", 2, 0, 1}, {"copy", 0, 0, 0, 1, 1}, {"people", 0, 0, 0, 1}};
        for (Object[] call : calls) {
            AheadOfAFriend x = some();
            int[] a = new int[call.length - 1];
            for (int i = 0; i < a.length; i++) {
                a[i] = (Integer) call[i + 1];
            }
            Probe.call(x, (String) call[0], a);
            c.holds(Arrays.toString(call) + " is seen", !Probe.all(x).equals(untouched));
        }
        AheadOfAFriend x = some();
        x.set(4, 1, 0);
        String ready = Probe.all(x);
        AheadOfAFriend y = some();
        y.set(4, 1, 0);
        c.due("one passes", y.pass(2), STATE);
        c.holds("a refused pass isn't seen", Probe.all(y).equals(ready));
        AheadOfAFriend z = some();
        z.set(4, 1, 0);
        z.set(3, 2, 1);
        String gifted = Probe.all(z);
        AheadOfAFriend w = some();
        w.set(4, 1, 0);
        w.set(3, 2, 1);
        c.due("one passes", w.pass(2), 0);
        c.holds("a pass is seen", !Probe.all(w).equals(gifted));
    }

    private void people() {
        c.promise("2 set, refused");
        for (int v : new int[] {-1, 1000, MIN, MAX}) {
            refused(BAD, "set", 0, 0, v);
            refused(BAD, "set", 0, 9, v);
        }
        int[][] outside = {{1, -1, 10}, {2, -1, 32}, {3, -1, 100}, {4, -1, 41}};
        for (int[] o : outside) {
            refused(BAD, "set", o[0], 0, o[1]);
            refused(BAD, "set", o[0], 0, o[2]);
            refused(BAD, "set", o[0], -1, 0);
            refused(BAD, "set", o[0], 3, 0);
            refused(BAD, "set", o[0], 3, o[2]);
        }
        refused(BAD, "set", 2, 0, 1);
        refused(BAD, "set", 2, 1, 2);
        refused(BAD, "set", 2, 2, 31);
        refused(BAD, "set", -1, 0, 0);
        refused(BAD, "set", 5, 0, 0);
        refused(BAD, "set", 6, 9, -1);
        c.promise("3 person, refused");
        refused(BAD, "person", -1, 0);
        refused(BAD, "person", 6, 0);
        refused(BAD, "person", 0, -1);
        refused(BAD, "person", 0, 10);
        refused(BAD, "person", MIN, MAX);
        c.promise("4 told, refused");
        refused(BAD, "told", 3, 1);
        refused(BAD, "told", -1, 14);
        refused(BAD, "told", 0, -1);
        refused(BAD, "told", 0, 15);
        refused(BAD, "told", 3, 15);
    }

    private void texts() {
        c.promise("5 feed, refused");
        refused(BAD, "feed", -1);
        refused(BAD, "feed", 256);
        refused(BAD, "feed", MIN);
        c.promise("7 force, refused");
        refused(BAD, "force", -1);
        refused(BAD, "force", 2);
        refused(BAD, "force", MAX);
    }

    private void line() {
        c.promise("8 first, refused");
        refused(BAD, "first", -1);
        refused(BAD, "first", 5);
        c.promise("9 pass, refused");
        refused(BAD, "pass", -1);
        refused(BAD, "pass", 3);
        refused(STATE, "pass", 0);
        refused(STATE, "pass", 1);
        refused(STATE, "pass", 2);
        c.promise("12 come, refused");
        refused(BAD, "come", -1);
        refused(BAD, "come", 3);
        refused(STATE, "come", 1);
        refused(STATE, "come", 2);
    }

    private void orders() {
        c.promise("13 orders, 14 fewest, 15 ahead, 16 run, refused");
        refused(BAD, "orders", -1);
        refused(BAD, "orders", 7);
        refused(BAD, "fewest", -1);
        refused(BAD, "fewest", MIN);
        refused(BAD, "ahead", 3, 0);
        refused(BAD, "ahead", -1, 0);
        refused(BAD, "ahead", 1, 3);
        refused(BAD, "ahead", 1, -1);
        // Not in THE LINE is NONE, but what is none such comes first.
        refused(BAD, "ahead", 0, 3);
        refused(BAD, "run", -1, 0);
        refused(BAD, "run", 61, 0);
        refused(BAD, "run", 0, 2);
        refused(BAD, "run", 0, 9);
        refused(BAD, "run", 0, 13);
        refused(BAD, "run", 0, -1);
        refused(BAD, "run", 61, 13);
    }

    private void told() {
        c.promise("17 tells, refused");
        refused(BAD, "tells", -1, 0, 0);
        refused(BAD, "tells", 4, 0, 0);
        refused(BAD, "tells", 0, -1, 0);
        refused(BAD, "tells", 0, 3, 0);
        refused(BAD, "tells", 0, 0, -1);
        refused(BAD, "tells", 0, 0, 6);
        for (int what = 0; what <= 5; what++) {
            refused(-11, "tells", 3, 0, what);
            refused(BAD, "tells", 2, 0, what);
            // A SHEET that is missing is named behind who is none such.
            refused(BAD, "tells", 3, 3, what);
        }
        refused(BAD, "tells", 3, 0, 6);
        refused(BAD, "tells", 3, -1, -1);
        c.promise("18 film, refused");
        refused(BAD, "film", -1, 1);
        refused(BAD, "film", 4, 1);
        refused(BAD, "film", 0, -1);
        refused(BAD, "film", 0, 31);
        refused(BAD, "film", 3, 31);
        refused(BAD, "film", MIN, MAX);
        c.promise("20 chance, refused");
        long no = AheadOfAFriend.NO;
        refused(no, "chance", 1, 0, 0, 0);
        refused(no, "chance", 1, 11, 0, 0);
        refused(no, "chance", 1, 1, 3, 0);
        refused(no, "chance", 1, 1, -1, 0);
        refused(no, "chance", 1, 1, 0, -1);
        refused(no, "chance", 1, 1, 0, 2);
        c.promise("23 count, refused");
        refused(BAD, "count", -1);
        refused(BAD, "count", 6);
    }

    private void sheets() {
        c.promise("24 sheet, refused");
        refused(BAD, "sheet", -1, 0, 1);
        refused(BAD, "sheet", 4, 0, 1);
        refused(BAD, "sheet", 4, -1, 1);
        refused(BAD, "sheet", 0, -2, 1);
        refused(BAD, "sheet", 0, 3, 1);
        refused(BAD, "sheet", 0, 0, 41);
        refused(BAD, "sheet", 3, 0, MAX);
        refused(-14, "sheet", 0, 0, -1);
        refused(-14, "sheet", 3, 2, MIN);
        // Of two refusals the one that is named first.
        refused(BAD, "sheet", 4, 0, -1);
        refused(BAD, "sheet", -1, 0, 41);
        refused(BAD, "sheet", 0, 3, -1);
        refused(BAD, "sheet", 0, -2, -1);
        refused(BAD, "sheet", 0, 3, 41);
        c.promise("25 cell, refused");
        refused(BAD, "cell", -1, 0, 1);
        refused(BAD, "cell", 4, 0, 1);
        refused(-11, "cell", 3, 0, 1);
        refused(-12, "cell", 0, -1, 1);
        refused(-12, "cell", 0, 4, 1);
        refused(-12, "cell", 1, 3, 1);
        refused(-12, "cell", 2, 31, 1);
        refused(-12, "cell", 0, MAX, 1);
        refused(-12, "cell", 0, MIN, 1);
        refused(BAD, "cell", 4, -1, 1);
        refused(-11, "cell", 3, -1, 1);
    }

    private void copies() {
        c.promise("26 copy, refused");
        refused(BAD, "copy", -1, 0, 0, 0, 1);
        refused(BAD, "copy", 0, 0, 4, 0, 1);
        refused(-11, "copy", 3, 0, 0, 0, 1);
        refused(-11, "copy", 0, 0, 3, 0, 1);
        refused(-11, "copy", 3, 0, 3, 0, 0);
        refused(-13, "copy", 0, 0, 1, 0, 1);
        refused(-13, "copy", 1, 0, 2, 0, 1);
        refused(-13, "copy", 2, 0, 0, 0, 0);
        refused(-12, "copy", 0, 0, 0, 1, 4);
        refused(-12, "copy", 0, 1, 0, 0, 4);
        refused(-12, "copy", 0, -1, 0, 0, 2);
        refused(-12, "copy", 0, 0, 0, -1, 2);
        refused(-12, "copy", 0, 1, 0, 0, -1);
        refused(-12, "copy", 0, 5, 0, 0, 0);
        refused(-12, "copy", 0, 0, 0, 5, 0);
        refused(-12, "copy", 0, 1, 0, 2, MAX);
        refused(-12, "copy", 0, MAX, 0, 0, MAX);
        refused(-12, "copy", 0, 1, 0, 2, MIN);
        // Of two refusals the one that is named first.
        refused(BAD, "copy", 4, 0, 3, 0, 1);
        refused(BAD, "copy", 3, 0, 4, 0, -1);
        refused(BAD, "copy", 0, -1, -1, -1, -1);
        refused(-11, "copy", 3, -1, 0, 0, 1);
        refused(-11, "copy", 0, 0, 3, 0, -1);
        refused(-13, "copy", 0, 9, 1, 0, 1);
        refused(-13, "copy", 0, 0, 1, 0, -1);
    }

    private void peopleBySheet() {
        c.promise("27 people, refused");
        refused(BAD, "people", -1, 0, 0, 1);
        refused(BAD, "people", 4, 0, 0, 1);
        refused(BAD, "people", 0, -1, 0, 1);
        refused(BAD, "people", 0, 3, 0, 1);
        refused(BAD, "people", 0, 0, 0, -1);
        refused(BAD, "people", 0, 0, 0, 6);
        refused(-13, "people", 0, 1, 0, 1);
        refused(-13, "people", 0, 2, 0, 1);
        refused(-13, "people", 1, 0, 0, 1);
        refused(-13, "people", 2, 1, 0, 0);
        refused(-11, "people", 3, 0, 0, 1);
        refused(-11, "people", 3, 2, 0, 0);
        refused(-12, "people", 0, 0, -1, 1);
        refused(-12, "people", 0, 0, -2, 2);
        refused(-12, "people", 0, 0, 3, 1);
        refused(-12, "people", 0, 0, 4, 1);
        refused(-12, "people", 0, 0, MAX, 5);
        refused(-12, "people", 0, 0, MIN, 5);
        // Of two refusals the one that is named first.
        refused(BAD, "people", 4, 3, 0, 6);
        refused(BAD, "people", 3, 3, 0, 1);
        refused(BAD, "people", 3, 0, 0, 6);
        refused(BAD, "people", 0, 1, 0, 6);
        refused(-13, "people", 0, 1, 9, 1);
        refused(-13, "people", 0, 1, -1, 5);
        refused(-11, "people", 3, 1, -1, 1);
    }

    private void taken() {
        c.promise("28 taken, refused");
        refused(BAD, "taken", 0, -1);
        refused(BAD, "taken", 0, 6);
        refused(-11, "taken", 3, 0);
        refused(-11, "taken", -1, 5);
        refused(-13, "taken", 0, 1);
        refused(-13, "taken", 1, 4);
        refused(-13, "taken", 2, 2);
        refused(BAD, "taken", 3, 6);
        refused(BAD, "taken", -1, -1);
    }

    /** What is told in thought leaves all as it is, and so do calls that find nothing to do. */
    private void asked() {
        c.promise("calls that only tell");
        for (int what = 0; what <= 14; what++) {
            onlyAsked("told", 2, what);
        }
        for (int what = 0; what <= 6; what++) {
            onlyAsked("orders", what);
        }
        for (int what = 0; what <= 2; what++) {
            onlyAsked("ahead", 2, what);
            onlyAsked("ahead", 0, what);
        }
        for (int what : new int[] {0, 1, 10, 11, 12}) {
            onlyAsked("run", 60, what);
        }
        for (int what = 0; what <= 5; what++) {
            onlyAsked("tells", 0, 1, what);
            onlyAsked("count", what);
        }
        onlyAsked("first", 4);
        onlyAsked("fewest", 32);
        onlyAsked("drawn", 5);
        onlyAsked("chance", 5, 10, 2, 0);
        onlyAsked("haste");
        onlyAsked("copy", 0, 4, 0, 0, 0);
        onlyAsked("copy", 0, 0, 0, 0, 4);
        onlyAsked("people", 0, 0, 0, 0);
        onlyAsked("people", 0, 0, 99, 0);
        onlyAsked("taken", 2, 1);
    }

    private void whenFull() {
        c.promise("what is full, refused");
        refused(FULL, "person", 0, 0);
        refused(FULL, "person", 5, 9);
        refused(BAD, "person", 6, 0);
        refused(BAD, "person", 0, 10);
        refused(FULL, "feed", 0);
        refused(FULL, "feed", 255);
        refused(BAD, "feed", 256);
        refused(BAD, "feed", -1);
        refused(FULL, "text");
        refused(BAD, "force", 6);
        refused(STATE, "minute");
        refused(BAD, "set", 1, 5, 0);
        refused(BAD, "told", 5, 1);
        refused(BAD, "run", 0, 15);
        refused(BAD, "pass", 5);
        refused(BAD, "come", 5);
    }

    private void whenNew() {
        c.promise("a new object, refused");
        refused(STATE, "back");
        for (int what = 1; what <= 4; what++) {
            refused(BAD, "set", what, 0, 0);
            refused(BAD, "told", 0, what);
        }
        refused(BAD, "force", 1);
        refused(BAD, "pass", 0);
        refused(BAD, "come", 0);
        refused(BAD, "ahead", 0, 0);
        refused(BAD, "run", 0, 10);
        refused(BAD, "tells", 0, 0, 0);
        refused(AheadOfAFriend.NO, "chance", 0, 1, 0, 0);
        for (int sheet = 0; sheet < 4; sheet++) {
            refused(-11, "cell", sheet, 0, 0);
            refused(-11, "copy", sheet, 0, sheet, 0, 0);
            refused(-11, "people", sheet, sheet % 3, 0, 0);
        }
        refused(-11, "taken", 0, 0);
    }

    /** The one refusal behind which something has changed. */
    private static void cameAhead(Check c) {
        c.promise("27 people, what stood ahead came");
        AheadOfAFriend x = some();
        c.due("people", x.people(0, 0, 0, 3), -12);
        AheadOfAFriend y = some();
        y.person(0, 3);
        y.person(1, 4);
        c.holds("as by person(), and nothing else", Probe.all(x).equals(Probe.all(y)));
        AheadOfAFriend z = some();
        c.due("people", z.people(0, 0, 1, 2), -12);
        AheadOfAFriend w = some();
        w.person(3, 1);
        c.holds("half of the next is none", Probe.all(z).equals(Probe.all(w)));
    }

    /** A FAULT is an answer: THE TAPE is empty then, and nothing else has changed. */
    private static void faultIsNoRefusal(Check c) {
        c.promise("6 text, a FAULT");
        AheadOfAFriend x = some();
        x.feed('#');
        c.due("text", x.text(), -123);
        AheadOfAFriend y = some();
        y.text();
        c.due("TEXTS", x.count(3), y.count(3) - 1);
        c.due("THE TAPE", x.count(4), 0);
        c.due("the same TEXT can be told anew", Check.textOf(x, "minds 0;lasts 5;irks 6;"), 2);
        c.holds("all else is as it was", Probe.all(x).equals(Probe.all(y)));
    }
}
