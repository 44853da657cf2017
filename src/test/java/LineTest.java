/** Promises 8 to 12: first, pass, haste, minute, come. */
public final class LineTest {
    public static void main(String[] args) {
        Check c = new Check();
        first(c);
        pass(c);
        passServed(c);
        haste(c);
        minute(c);
        lastsIsToldAhead(c);
        come(c);
        c.end();
    }

    private static void first(Check c) {
        c.promise("8 first");
        AheadOfAFriend x = Check.citizens(0, 0);
        int[] due = {0, 1, -1, -1, -1};
        for (int p = 0; p < 5; p++) {
            c.due("first(" + p + ")", x.first(p), due[p]);
        }
        c.due("first(5)", x.first(5), -2);
        c.due("first(-1)", x.first(-1), -2);
        c.due("first(max)", x.first(Integer.MAX_VALUE), -2);
        c.due("first(min)", x.first(Integer.MIN_VALUE), -2);
    }

    private static void pass(Check c) {
        c.promise("9 pass");
        AheadOfAFriend x = Check.citizens(4, 4, 0);
        c.due("none such", x.pass(3), -2);
        c.due("none such", x.pass(-1), -2);
        c.due("the first", x.pass(0), -3);
        c.due("0 minds 1", x.pass(1), -3);
        c.due("line", Check.line(x), 123);
        c.due("2 passes 1", x.pass(2), 1);
        c.due("line", Check.line(x), 132);
        c.due("2 minds 1", x.pass(1), -3);
        c.due("2 passes 0", x.pass(2), 0);
        c.due("line", Check.line(x), 312);
        c.due("now the first", x.pass(2), -3);
        c.due("minute is as it was", x.count(2), 0);
        AheadOfAFriend y = new AheadOfAFriend();
        y.person(5, 0);
        y.person(0, 0);
        y.minute();
        c.due("not in the line", y.pass(0), -3);
    }

    private static void passServed(Check c) {
        c.promise("9 pass, served");
        AheadOfAFriend x = Check.citizens(6, 5, 3);
        c.due("a minute", x.minute(), -1);
        c.due("behind one who is served", x.pass(1), -3);
        c.due("behind one who isn't", x.pass(2), 1);
        c.due("behind one who is served", x.pass(2), -3);
        x.set(4, 0, 0);
        c.due("not served any more", x.pass(2), 0);
        AheadOfAFriend y = Check.citizens(6, 5, 3);
        y.set(4, 1, 5);
        c.due("served, but not at place 0, is passed", y.pass(2), 1);
        c.due("and passes", y.pass(1), 1);
        c.due("and comes first", y.pass(1), 0);
        c.due("and is not passed there", y.pass(0), -3);
        c.due("line", Check.line(y), 213);
    }

    private static void haste(Check c) {
        c.promise("10 haste");
        AheadOfAFriend x = Check.citizens(30, 29, 27, 23, 15);
        c.due("all pass the first", x.haste(), 4);
        c.due("line", Check.line(x), 23451);
        x.minute();
        c.due("all but the second", x.haste(), 3);
        c.due("line", Check.line(x), 24513);
        c.due("nobody", new AheadOfAFriend().haste(), 0);
        AheadOfAFriend y = Check.citizens(0, 4, 0);
        c.due("one", y.haste(), 1);
        c.due("line", Check.line(y), 132);
        c.due("none", y.haste(), 0);
        AheadOfAFriend z = Check.citizens(4, 4, 0);
        c.due("each once", z.haste(), 1);
        c.due("line", Check.line(z), 132);
        c.due("then once more", z.haste(), 1);
        c.due("line", Check.line(z), 312);
        c.due("minute is as it was", z.count(2), 0);
    }

    private static void minute(Check c) {
        c.promise("11 minute");
        AheadOfAFriend x = Check.citizens(0, 0);
        c.due("a minute", x.minute(), -1);
        c.due("served", x.told(0, 4), 1);
        c.due("served of who waits", x.told(1, 4), 0);
        c.due("minute", x.count(2), 1);
        c.due("a minute", x.minute(), -1);
        c.due("who leaves", x.minute(), 0);
        c.due("line", Check.line(x), 2);
        c.due("place", x.told(0, 6), -1);
        c.due("served stays", x.told(0, 4), 3);
        c.due("people", x.count(0), 2);
        x.set(4, 1, 40);
        c.due("served as much and more", x.minute(), 1);
        c.due("nobody", Check.line(x), 0);
        c.due("served", x.told(1, 4), 41);
        c.due("nobody leaves", x.minute(), -1);
        c.due("minute", x.count(2), 5);
        x.set(0, 0, 999);
        String was = Check.state(x);
        c.due("the last minute", x.minute(), -3);
        c.holds("nothing changed", was.equals(Check.state(x)));
        x.come(0);
        c.due("the last minute", x.minute(), -3);
        c.due("served", x.told(0, 4), 0);
        x.set(0, 0, 998);
        c.due("the last but one", x.minute(), -1);
        c.due("minute", x.count(2), 999);
    }

    private static void lastsIsToldAhead(Check c) {
        c.promise("11 minute, LASTS told ahead");
        AheadOfAFriend x = new AheadOfAFriend();
        x.person(0, 0);
        // With SERVED 0 the errand lasts 1; told behind the minute it would last 3.
        x.force(Check.textOf(x, "minds 0;lasts 1+2*errand;irks 0;"));
        c.due("errand ahead", x.minute(), 0);
        AheadOfAFriend y = new AheadOfAFriend();
        y.person(0, 0);
        y.force(Check.textOf(y, "minds 0;lasts 1+2*minute;irks 0;"));
        c.due("minute ahead", y.minute(), 0);
    }

    private static void come(Check c) {
        c.promise("12 come");
        AheadOfAFriend x = new AheadOfAFriend();
        x.person(5, 1);
        x.person(0, 2);
        x.set(2, 0, 2);
        x.set(3, 0, 7);
        c.due("none such", x.come(2), -2);
        c.due("none such", x.come(-1), -2);
        c.due("in it", x.come(0), -3);
        c.due("leaves", x.minute(), 0);
        c.due("comes", x.come(0), 1);
        c.due("line", Check.line(x), 21);
        c.due("served", x.told(0, 4), 0);
        c.due("likes", x.told(0, 2), 2);
        c.due("gifts", x.told(0, 3), 7);
        c.due("number", x.told(0, 1), 1);
        c.due("in it", x.come(0), -3);
        AheadOfAFriend y = new AheadOfAFriend();
        y.person(5, 0);
        y.minute();
        c.due("alone", y.come(0), 0);
    }
}
