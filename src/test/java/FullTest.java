/** Full: PEOPLE, THE LINE, THE TAPE, TEXTS; what is refused then, and what stays as it was. */
public final class FullTest {
    private static final int BAD = -2, STATE = -3, FULL = -4;

    public static void main(String[] args) {
        Check c = new Check();
        people(c);
        peopleWhoLeft(c);
        peopleBySheet(c);
        peopleTakenBack(c);
        line(c);
        tape(c);
        tapeThenText(c);
        texts(c);
        tapeBehindFullTexts(c);
        textsStay(c);
        c.end();
    }

    private static AheadOfAFriend five() {
        return Check.citizens(2, 4, 8, 16, 1);
    }

    private static void people(Check c) {
        c.promise("3 person, PEOPLE are full");
        AheadOfAFriend x = Check.citizens(2, 4, 8, 16);
        c.due("the fifth", x.person(3, 9), 4);
        String was = Check.state(x);
        for (int kind = 0; kind < 6; kind++) {
            c.due("a sixth of KIND " + kind, x.person(kind, kind), FULL);
        }
        c.due("none such comes first", x.person(6, 0), BAD);
        c.due("none such comes first", x.person(0, 10), BAD);
        c.due("the sixth is none such", x.told(5, 1), BAD);
        c.due("the sixth is none such", x.set(1, 5, 1), BAD);
        c.due("the sixth is none such", x.taken(5, 0), -11);
        c.holds("all is as it was", was.equals(Check.state(x)));
        c.due("PEOPLE", x.count(0), 5);
        c.due("line", Check.line(x), 12345);
    }

    private static void peopleWhoLeft(Check c) {
        c.promise("3 person, who left is still one of PEOPLE");
        AheadOfAFriend x = five();
        for (int i = 0; i < 5; i++) {
            c.due("full with " + i + " gone", x.person(0, 0), FULL);
            Check.send(x);
        }
        c.due("an empty line", x.count(1), 0);
        c.due("full", x.person(0, 0), FULL);
        c.due("nobody came", x.count(1), 0);
    }

    private static void peopleBySheet(Check c) {
        c.promise("27 people, PEOPLE are full");
        AheadOfAFriend x = Check.citizens(0, 0, 0);
        Check.lay(x, 0, 2, 0, 1, 1, 2, 2, 3, 3, 4, 4, 5);
        c.due("two of five have room, others are left out", x.people(0, 2, 0, 5), 2);
        c.due("PEOPLE", x.count(0), 5);
        c.due("line", Check.line(x), 12345);
        c.due("the last KIND", x.told(4, 5), 1);
        c.due("the last NUMBER", x.told(4, 1), 2);
        c.due("none has room", x.people(0, 2, 0, 5), 0);
        c.due("outside, though none has room", x.people(0, 2, 2, 5), -12);
        c.due("PEOPLE", x.count(0), 5);
    }

    private static void peopleTakenBack(Check c) {
        c.promise("22 back, room anew");
        AheadOfAFriend x = Check.citizens(0, 0);
        x.image();
        for (int i = 2; i < 5; i++) {
            c.due("person", x.person(5, 1), i);
        }
        c.due("full", x.person(0, 0), FULL);
        c.due("back", x.back(), 2);
        for (int i = 2; i < 5; i++) {
            c.due("person", x.person(1, 2), i);
            c.due("KIND", x.told(i, 5), 1);
            c.due("NUMBER", x.told(i, 1), 2);
        }
        c.due("full again", x.person(0, 0), FULL);
        c.due("an image of five", x.image(), 5);
        c.due("back to five", x.back(), 5);
        c.due("full", x.person(0, 0), FULL);
    }

    private static void line(Check c) {
        c.promise("12 come, a full THE LINE");
        AheadOfAFriend x = five();
        for (int one = 0; one < 5; one++) {
            c.due("in it", x.come(one), STATE);
        }
        for (int one = 0; one < 5; one++) {
            Check.send(x);
            c.due("comes last", x.come(one), 4);
        }
        c.due("round once", Check.line(x), 12345);
        c.due("five", x.count(1), 5);
    }

    private static void tape(Check c) {
        c.promise("5 feed, THE TAPE is full");
        AheadOfAFriend x = new AheadOfAFriend();
        for (int i = 1; i <= 160; i++) {
            c.due("byte " + i, x.feed(' '), i);
        }
        c.due("one more", x.feed(' '), FULL);
        c.due("another one", x.feed(0), FULL);
        c.due("none such comes first", x.feed(256), BAD);
        c.due("none such comes first", x.feed(-1), BAD);
        c.due("bytes", x.count(4), 160);
        c.due("a FAULT at its end", x.text(), -260);
        c.due("bytes", x.count(4), 0);
        c.due("room anew", x.feed('m'), 1);
    }

    private static void tapeThenText(Check c) {
        c.promise("5 feed, what a full THE TAPE says");
        AheadOfAFriend x = Check.citizens(0);
        String s = "minds 1;lasts 9;irks 8;";
        Check.feedAll(x, s + " ".repeat(160 - s.length()));
        c.due("full", x.feed('#'), FULL);
        c.due("full", x.feed('#'), FULL);
        c.due("a TEXT", x.text(), 1);
        x.force(1);
        c.due("lasts", x.told(0, 7), 9);
        c.due("irks", x.told(0, 8), 8);
    }

    private static AheadOfAFriend sixTexts() {
        AheadOfAFriend x = Check.citizens(0);
        for (int i = 1; i <= 5; i++) {
            Check.textOf(x, "minds 1;lasts " + (i + 10) + ";irks 1;");
        }
        return x;
    }

    private static void texts(Check c) {
        c.promise("6 text, TEXTS are full");
        AheadOfAFriend x = Check.citizens(0);
        for (int i = 1; i <= 4; i++) {
            c.due("TEXT " + i, Check.textOf(x, "minds 1;lasts " + (i + 10) + ";irks 1;"), i);
        }
        c.due("a FAULT takes no room", Check.textOf(x, "minds 1;"), -108);
        c.due("the sixth", Check.textOf(x, "minds 1;lasts 15;irks 1;"), 5);
        c.due("TEXTS", x.count(3), 6);
        c.due("a seventh", Check.textOf(x, "minds 1;lasts 30;irks 9;"), FULL);
        c.due("TEXTS", x.count(3), 6);
        c.due("THE RULE", x.count(5), 0);
        c.due("none such", x.force(6), BAD);
        int[] lasts = {3, 11, 12, 13, 14, 15};
        for (int i = 0; i < 6; i++) {
            x.force(i);
            c.due("TEXT " + i + " is as it was", x.told(0, 7), lasts[i]);
            c.due("TEXT " + i + " is as it was", x.told(0, 8), 1);
        }
    }

    private static void tapeBehindFullTexts(Check c) {
        c.promise("6 text, FULL, THE TAPE stays");
        AheadOfAFriend x = sixTexts();
        c.due("an empty one", x.text(), FULL);
        c.due("bytes", x.count(4), 0);
        c.due("a TEXT", Check.textOf(x, "minds 1;lasts 2;irks 3;"), FULL);
        c.due("bytes", x.count(4), 23);
        c.due("again", x.text(), FULL);
        c.due("bytes", x.count(4), 23);
        c.due("bytes come behind it", x.feed('#'), 24);
        c.due("with a FAULT", x.text(), FULL);
        c.due("bytes", x.count(4), 24);
        for (int i = 25; i <= 160; i++) {
            c.due("byte " + i, x.feed(' '), i);
        }
        c.due("THE TAPE is full too", x.feed(' '), FULL);
        c.due("full of both", x.text(), FULL);
        c.due("bytes", x.count(4), 160);
    }

    private static void textsStay(Check c) {
        c.promise("22 back, TEXTS stay");
        AheadOfAFriend x = Check.citizens(0);
        x.image();
        for (int i = 1; i <= 5; i++) {
            Check.textOf(x, "minds 1;lasts 3;irks 1;");
        }
        x.force(5);
        x.back();
        c.due("TEXTS", x.count(3), 6);
        c.due("THE RULE", x.count(5), 0);
        c.due("full", x.text(), FULL);
        Check.lay(x, 0, 0, 0, 0, -1);
        c.due("all six fit", x.tells(0, 0, 5), 63);
        c.due("the sixth can be forced", x.force(5), 0);
    }
}
