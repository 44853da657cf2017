/** Promises 5 to 7: feed, text, force; and what a TEXT is worth. */
public final class TextsTest {
    public static void main(String[] args) {
        Check c = new Check();
        feed(c);
        text(c);
        faults(c);
        open(c);
        full(c);
        force(c);
        worth(c);
        names(c);
        c.end();
    }

    private static void feed(Check c) {
        c.promise("5 feed");
        AheadOfAFriend x = new AheadOfAFriend();
        c.due("feed(-1)", x.feed(-1), -2);
        c.due("feed(256)", x.feed(256), -2);
        c.due("feed(min)", x.feed(Integer.MIN_VALUE), -2);
        c.due("nothing came", x.count(4), 0);
        for (int i = 1; i <= 160; i++) {
            c.due("feed", x.feed(i == 1 ? 0 : i == 2 ? 255 : 32), i);
        }
        c.due("one more", x.feed(32), -4);
        c.due("one more, badly told", x.feed(256), -2);
        c.due("bytes", x.count(4), 160);
        c.due("text()", x.text(), -100);
        c.due("bytes", x.count(4), 0);
        c.due("feed again", x.feed(32), 1);
    }

    private static void text(Check c) {
        c.promise("6 text");
        AheadOfAFriend x = new AheadOfAFriend();
        c.due("an empty tape", x.text(), -100);
        c.due("texts", x.count(3), 1);
        Check.feedAll(x, "minds 1;lasts 2;irks 3;");
        c.due("text()", x.text(), 1);
        c.due("the tape is empty", x.count(4), 0);
        c.due("texts", x.count(3), 2);
        c.due("the rule is as it was", x.count(5), 0);
        c.due("blanks anywhere", Check.textOf(x, "\n minds\n1 ;lasts2 ; irks 3\n;\n "), 2);
        c.due("a fault", Check.textOf(x, "minds 1;lasts 2;irks 3"), -122);
        c.due("the tape is empty", x.count(4), 0);
        c.due("texts", x.count(3), 3);
        StringBuilder longest = new StringBuilder("minds 1;lasts 2;irks 3");
        while (longest.length() < 158) {
            longest.append("+1");
        }
        c.due("160 bytes", Check.textOf(x, longest.append(" ;").toString()), 3);
    }

    private static void fault(Check c, String s, int place) {
        AheadOfAFriend x = new AheadOfAFriend();
        c.due("\"" + s + "\"", Check.textOf(x, s), place < 0 ? 1 : -100 - place);
    }

    private static void faults(Check c) {
        c.promise("6 text, FAULT");
        fault(c, "   ", 3);
        fault(c, "minds", 5);
        fault(c, "minds 1;lasts 1;irks 1;", -1);
        fault(c, "minds 1;lasts 1;irks 1; ;", 24);
        fault(c, "minds 1;lasts 1;irks 1;minds", 23);
        fault(c, "lasts 1;", 0);
        fault(c, "minds 1;irks 1;", 8);
        fault(c, "minds ;", 6);
        fault(c, "minds 1 2;", 8);
        fault(c, "minds 12345;", 6);
        fault(c, "minds 9999;lasts 0000;irks 1;", -1);
        fault(c, "minds 1;lasts 00001;irks 1;", 14);
        fault(c, "minds foo;", 6);
        fault(c, "minds notliked;", 6);
        fault(c, "minds likedd;", 6);
        fault(c, "minds like;", 6);
        fault(c, "minds likedz;", 6);
        fault(c, "minds not foo;", 10);
        fault(c, "minds -foo;", 7);
        fault(c, "minds (foo);", 7);
        fault(c, "minds 1;lasts 1;irks 1;#", 23);
        fault(c, "minds 1;lasts 1;irks 1;foo", 23);
        fault(c, "minds 1;lasts 1;irks 1; 12345", 24);
        fault(c, "minds1;lasts1;irks1;", -1);
        fault(c, "mindsliked;", 0);
        fault(c, "Minds 1;", 0);
        fault(c, "minds 1\t;", 7);
        fault(c, "minds 1 > 2;", 8);
        fault(c, "minds \u00e9;", 6);
        fault(c, "minds 1 and;", 11);
        fault(c, "minds 1 or or 1;", 11);
        fault(c, "minds 1 < 2 < 3;", 12);
        fault(c, "minds 1 = 2 = 3;", 12);
        fault(c, "minds 1 < not 2;", 10);
        fault(c, "minds 1 + not 2;", 10);
        fault(c, "minds - not 2;", 8);
        fault(c, "minds + 2;", 6);
        fault(c, "minds 1 * ;", 10);
        fault(c, "minds (1;", 8);
        fault(c, "minds 1);", 7);
        fault(c, "minds ();", 7);
        fault(c, "minds minds;", 6);
        fault(c, "minds 1 and lasts;", 12);
        fault(c, "minds 1 and", 11);
        fault(c, "minds 1 and  ", 13);
        fault(c, "minds (1 or 2) and not 3 < 4;lasts 1--1;irks 2*-3*(4);", -1);
    }

    private static void open(Check c) {
        c.promise("6 text, what is open");
        String end = "lasts 1;irks 1;";
        fault(c, "minds (((((1)))));" + end, -1);
        fault(c, "minds ((((((1))))));" + end, 11);
        fault(c, "minds -----1;" + end, -1);
        fault(c, "minds ------1;" + end, 11);
        fault(c, "minds not not not not not 1;" + end, -1);
        fault(c, "minds not not not not not not 1;" + end, 26);
        fault(c, "minds not not not not not -1;" + end, 26);
        fault(c, "minds not(-(not -1));" + end, 16);
        fault(c, "minds not(-(not 1));" + end, -1);
        fault(c, "minds (-(not -1));" + end, -1);
        fault(c, "minds ((((-1))))+((((-1))));" + end, -1);
        fault(c, "minds ((((-1-1))));" + end, -1);
        fault(c, "minds (((((1-1)))));" + end, -1);
        fault(c, "minds (((((1--1)))));" + end, 13);
        // A not is open till its whole NOT ends: also behind its + and its <.
        fault(c, "minds not 1+(((((1)))));" + end, 16);
        fault(c, "minds not 1<(((((1)))));" + end, 16);
        fault(c, "minds not 1 and (((((1)))));" + end, -1);
        // A - is open only till its ONE ends.
        fault(c, "minds -1*(((((1)))));" + end, -1);
        fault(c, "minds -(((((1)))));" + end, 11);
        fault(c, "minds 1;lasts (((((1)))));irks ((((((1))))));", 36);
    }

    private static void full(Check c) {
        c.promise("6 text, FULL");
        AheadOfAFriend x = new AheadOfAFriend();
        for (int i = 1; i <= 5; i++) {
            c.due("text " + i, Check.textOf(x, "minds 1;lasts " + i + ";irks 1;"), i);
        }
        Check.feedAll(x, "minds 1;lasts 9;irks 1;");
        c.due("a seventh", x.text(), -4);
        c.due("the tape stays", x.count(4), 23);
        c.due("again", x.text(), -4);
        c.due("texts", x.count(3), 6);
        x.person(0, 0);
        x.force(5);
        c.due("the sixth is as it was", x.told(0, 7), 5);
        x.force(0);
        c.due("text 0 is as it was", x.told(0, 7), 3);
    }

    private static void force(Check c) {
        c.promise("7 force");
        AheadOfAFriend x = new AheadOfAFriend();
        c.due("force(1)", x.force(1), -2);
        c.due("force(-1)", x.force(-1), -2);
        c.due("force(0)", x.force(0), 0);
        Check.textOf(x, "minds 1;lasts 20;irks 4;");
        Check.textOf(x, "minds broken");
        c.due("force(2)", x.force(2), -2);
        c.due("the rule", x.count(5), 0);
        x.person(0, 2);
        c.due("by text 0", x.told(0, 7), 5);
        c.due("force(1)", x.force(1), 0);
        c.due("the rule", x.count(5), 1);
        c.due("by text 1", x.told(0, 7), 20);
        c.due("force(0)", x.force(0), 1);
        c.due("by text 0", x.told(0, 8), 1);
    }

    /** lasts of a CITIZEN is what the E is worth, from 1 to 40. */
    private static void lasts(Check c, String e, int want) {
        AheadOfAFriend x = new AheadOfAFriend();
        x.person(0, 7);
        x.set(4, 0, 3);
        c.due("text", Check.textOf(x, "minds 0;lasts " + e + ";irks 0;"), 1);
        x.force(1);
        c.due(e, x.told(0, 7), want);
    }

    private static void worth(Check c) {
        c.promise("6 text, worth");
        lasts(c, "2+3*4", 14);
        lasts(c, "(2+3)*4", 20);
        lasts(c, "20-3-4", 13);
        lasts(c, "20-(3-4)", 21);
        lasts(c, "2*3*4", 24);
        lasts(c, "-3+8", 5);
        lasts(c, "-3*-4", 12);
        lasts(c, "--9", 9);
        lasts(c, "2--9", 11);
        lasts(c, "number*number", 40);
        lasts(c, "number*2", 14);
        lasts(c, "10+(3<4)", 11);
        lasts(c, "10+(4<4)", 10);
        lasts(c, "10+(4=4)", 11);
        lasts(c, "10+(4=5)", 10);
        lasts(c, "10+(-1<0)", 11);
        lasts(c, "10+(7 and 8)", 11);
        lasts(c, "10+(7 and 0)", 10);
        lasts(c, "10+(1 and 1)", 11);
        lasts(c, "10+(0 and 1)", 10);
        lasts(c, "10+(0 or -5)", 11);
        lasts(c, "10+(0 or 0)", 10);
        lasts(c, "10+(not 7)", 10);
        lasts(c, "10+(not 0)", 11);
        lasts(c, "10+(not not 7)", 11);
        lasts(c, "10+(not 3 = 3)", 10);
        lasts(c, "10+(1 or 1 and 0)", 11);
        lasts(c, "10+((1 or 1) and 0)", 10);
        lasts(c, "10+(not 1 and 0)", 10);
        lasts(c, "10+(not (1 and 0))", 11);
        lasts(c, "10+(1+1<2*2)", 11);
        lasts(c, "10+(number)", 17);
        lasts(c, "9", 9);
        lasts(c, "2 and 9", 1);
        // 9999 * 9999 * 43 is 4299140043, which wraps to 4172747.
        lasts(c, "10+(9999*9999*43=4172*1000+747)", 11);
        // 9999 * 9999 * 22 wraps below 0.
        lasts(c, "10+(9999*9999*22<0)", 11);
        lasts(c, "9999*9999*22", 1);
        lasts(c, "9999", 40);
        lasts(c, "0", 1);
        lasts(c, "0+6", 6);
        lasts(c, "errand", 3);
        afterFault(c);
    }

    /** What was read of a long TEXT with a FAULT takes no room from the next one. */
    private static void afterFault(Check c) {
        AheadOfAFriend x = new AheadOfAFriend();
        StringBuilder b = new StringBuilder("minds 1");
        while (b.length() < 159) {
            b.append("+1");
        }
        c.due("a long one", Check.textOf(x, b.toString()), -100 - b.length());
        c.due("another", Check.textOf(x, "minds 1+1+1+1+1+1+1+1;lasts 1+1+1+1+1+1+1+1;irks 1+1+1+1+1+1+1+1;"), 1);
        x.force(1);
        x.person(0, 0);
        c.due("lasts", x.told(0, 7), 8);
        c.due("irks", x.told(0, 8), 8);
    }

    private static void names(Check c) {
        c.promise("6 text, names");
        AheadOfAFriend x = new AheadOfAFriend();
        x.person(0, 4);
        x.person(0, 6);
        x.person(0, 8);
        x.set(0, 0, 5);
        x.set(2, 1, 1);
        x.set(2, 2, 1);
        x.set(2, 0, 2);
        x.set(3, 0, 13);
        x.set(3, 1, 17);
        x.set(4, 0, 19);
        String[] names = {"liked", "number", "theirs", "minute", "gifts"};
        int[] alone = {2, 4, 0, 5, 13};
        int[] before = {1, 4, 6, 5, 17};
        for (int i = 0; i < names.length; i++) {
            c.due("text", Check.textOf(x, "minds " + names[i] + "=" + before[i] + ";lasts " + names[i] + ";irks " + names[i] + ";"), i + 1);
            x.force(i + 1);
            c.due("lasts " + names[i], x.told(0, 7), Math.max(1, alone[i]));
            c.due("irks " + names[i], x.told(0, 8), alone[i]);
            c.due("minds " + names[i], x.told(0, 11), 1);
            c.due("minds " + names[i] + ", of another", x.told(0, 12), i == 1 || i == 3 ? 1 : 0);
        }
        AheadOfAFriend y = new AheadOfAFriend();
        y.person(0, 4);
        y.person(0, 4);
        y.set(4, 0, 19);
        y.set(4, 1, 3);
        y.force(Check.textOf(y, "minds errand=19;lasts errand;irks errand;"));
        c.due("minds errand", y.told(0, 11), 1);
        c.due("minds errand", y.told(1, 10), 0);
        c.due("lasts errand", y.told(0, 7), 19);
        c.due("irks errand", y.told(1, 8), 3);
        // Who left is still one of PEOPLE, and likes.
        AheadOfAFriend z = new AheadOfAFriend();
        z.person(5, 0);
        z.person(0, 0);
        z.set(2, 0, 2);
        z.minute();
        z.force(Check.textOf(z, "minds 0;lasts 1;irks liked;"));
        c.due("liked by who left", z.told(1, 8), 1);
    }
}
