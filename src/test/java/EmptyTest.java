/** Empty: nobody, an empty THE LINE, one alone, an empty THE TAPE, a row of 0, a SHEET that is missing, no IMAGE. */
public final class EmptyTest {
    private static final int BAD = -2, STATE = -3;

    public static void main(String[] args) {
        Check c = new Check();
        nobody(c);
        nobodyByMinutes(c);
        nobodyIsKept(c);
        emptyLine(c);
        emptyLineByMinutes(c);
        emptyLineTold(c);
        emptyLineFills(c);
        alone(c);
        emptyTape(c);
        rowOfNone(c);
        missingSheet(c);
        missingAgain(c);
        noImage(c);
        c.end();
    }

    private static void orders(Check c, AheadOfAFriend x, int... due) {
        for (int what = 0; what < due.length; what++) {
            c.due("orders(" + what + ")", x.orders(what), due[what]);
        }
    }

    private static void counts(Check c, AheadOfAFriend x, int... due) {
        for (int what = 0; what < due.length; what++) {
            c.due("count(" + what + ")", x.count(what), due[what]);
        }
    }

    private static void tells(Check c, AheadOfAFriend x, int sheet, int one, int... due) {
        for (int what = 0; what < due.length; what++) {
            c.due("tells(" + sheet + ", " + one + ", " + what + ")", x.tells(sheet, one, what), due[what]);
        }
    }

    private static void nobody(Check c) {
        c.promise("1 a new object, nobody");
        AheadOfAFriend x = new AheadOfAFriend();
        counts(c, x, 0, 0, 0, 1, 0, 0);
        orders(c, x, 1, 0, 0, 0, 0, 0, 0);
        for (int place = 0; place < 5; place++) {
            c.due("first(" + place + ")", x.first(place), -1);
        }
        for (int one = 0; one < 5; one++) {
            c.due("pass(" + one + ")", x.pass(one), BAD);
            c.due("come(" + one + ")", x.come(one), BAD);
            c.due("ahead(" + one + ", 0)", x.ahead(one, 0), BAD);
            c.due("taken(" + one + ", 0)", x.taken(one, 0), -11);
            c.due("chance", x.chance(0, 1, one, 0), AheadOfAFriend.NO);
            for (int what = 1; what < 15; what++) {
                c.due("told(" + one + ", " + what + ")", x.told(one, what), BAD);
            }
        }
        c.due("fewest(0)", x.fewest(0), 0);
        c.due("fewest(1)", x.fewest(1), -1);
        c.due("haste()", x.haste(), 0);
        c.due("drawn(0)", x.drawn(0), 1);
        x.sheet(0, 0, 0);
        c.due("tells", x.tells(0, 0, 0), BAD);
        c.due("tells, TEXTS", x.tells(0, 0, 5), BAD);
        counts(c, x, 0, 0, 0, 1, 0, 0);
    }

    private static void nobodyByMinutes(Check c) {
        c.promise("11 minute, 16 run, 18 film, nobody");
        AheadOfAFriend x = new AheadOfAFriend();
        c.due("minute()", x.minute(), -1);
        c.due("MINUTE", x.count(2), 1);
        c.due("told MINUTE", x.told(0, 0), 1);
        for (int n : new int[] {0, 1, 60}) {
            c.due("how many", x.run(n, 0), 0);
            c.due("who is first", x.run(n, 1), -1);
            c.due("none such", x.run(n, 10), BAD);
        }
        c.due("film", x.film(0, 3), 3);
        // A STRANGER leaves in the first MINUTE, so that nobody is first behind 1, 2, 3.
        x.person(5, 0);
        c.due("nobody was filmed", x.tells(0, 0, 0), -1);
        for (int i = 0; i < 3; i++) {
            x.cell(0, i, 0);
            c.due("nobody was filmed as " + i, x.tells(0, 0, 0), i);
            x.cell(0, i, -1);
        }
    }

    private static void nobodyIsKept(Check c) {
        c.promise("21 image, 22 back, nobody");
        AheadOfAFriend x = new AheadOfAFriend();
        c.due("image", x.image(), 0);
        x.person(0, 3);
        x.set(0, 0, 9);
        c.due("back", x.back(), 0);
        counts(c, x, 0, 0, 0, 1, 0, 0);
        c.due("none such", x.told(0, 1), BAD);
        c.due("the first again", x.person(1, 5), 0);
        c.due("place", x.told(0, 6), 0);
        c.due("KIND", x.told(0, 5), 1);
    }

    /** Two who LIKE one another, and have left. */
    private static AheadOfAFriend left() {
        AheadOfAFriend x = Check.citizens(2, 1);
        Check.send(x);
        Check.send(x);
        return x;
    }

    private static void emptyLine(Check c) {
        c.promise("an empty THE LINE");
        AheadOfAFriend x = left();
        counts(c, x, 2, 0, 0, 1, 0, 0);
        orders(c, x, 1, 0, 0, 0, 0, 0, 0);
        c.due("fewest(0)", x.fewest(0), 0);
        c.due("fewest(12)", x.fewest(12), -1);
        c.due("haste()", x.haste(), 0);
        for (int place = 0; place < 5; place++) {
            c.due("first(" + place + ")", x.first(place), -1);
        }
        for (int one = 0; one < 2; one++) {
            c.due("pass", x.pass(one), STATE);
            c.due("place", x.told(one, 6), -1);
            c.due("LASTS is told", x.told(one, 7), 3);
            c.due("IRKS is told", x.told(one, 8), 1);
            c.due("who LIKE one", x.told(one, 9), 1);
            c.due("MINDS is told", x.told(one, 11 - one), 0);
            for (int what = 0; what < 3; what++) {
                c.due("ahead(" + one + ", " + what + ")", x.ahead(one, what), -1);
            }
            c.due("above", x.chance(3, 10, one, 0), 0);
            c.due("below", x.chance(3, 10, one, 1), 1);
            c.due("taken", x.taken(one, 0), 0);
        }
        c.due("drawn", x.drawn(3), 1);
    }

    private static void emptyLineByMinutes(Check c) {
        c.promise("11 minute, 16 run, an empty THE LINE");
        AheadOfAFriend x = left();
        c.due("minute", x.minute(), -1);
        c.due("MINUTE", x.count(2), 1);
        c.due("SERVED", x.told(0, 4), 41);
        for (int n : new int[] {0, 60}) {
            c.due("how many", x.run(n, 0), 0);
            c.due("who is first", x.run(n, 1), -1);
            c.due("0 leaves", x.run(n, 10), -1);
            c.due("1 leaves", x.run(n, 11), -1);
            c.due("2 is none such", x.run(n, 12), BAD);
        }
        x.set(0, 0, 999);
        c.due("in MINUTE 999", x.minute(), STATE);
    }

    private static void emptyLineTold(Check c) {
        c.promise("17 tells, 18 film, an empty THE LINE");
        AheadOfAFriend x = left();
        Check.textOf(x, "minds 0;lasts 1;irks 0;");
        c.due("film", x.film(0, 2), 2);
        tells(c, x, 0, 0, -1, 63, 1023, 41, 0, 0b11);
        Check.lay(x, 1, 2, -1, -1);
        tells(c, x, 1, 1, -1, 63, 1023, 41, 0, 0b11);
        Check.lay(x, 2, 1, -1, 0);
        tells(c, x, 2, 1, 1, 0, 0, 0, -1, 0);
    }

    private static void emptyLineFills(Check c) {
        c.promise("3 person, 12 come, into an empty THE LINE");
        AheadOfAFriend x = left();
        x.image();
        c.due("come(1)", x.come(1), 0);
        c.due("come(0)", x.come(0), 1);
        c.due("line", Check.line(x), 21);
        c.due("back", x.back(), 2);
        c.due("empty again", x.count(1), 0);
        c.due("person", x.person(0, 0), 2);
        c.due("place", x.told(2, 6), 0);
        c.due("come(0)", x.come(0), 1);
        c.due("line", Check.line(x), 31);
    }

    private static void alone(Check c) {
        c.promise("one alone");
        AheadOfAFriend x = new AheadOfAFriend();
        x.person(3, 7);
        orders(c, x, 1, 0, 1, 0, 0, 1, 0);
        c.due("pass", x.pass(0), STATE);
        c.due("haste", x.haste(), 0);
        c.due("ahead", x.ahead(0, 0), 0);
        c.due("by no PASSING", x.ahead(0, 1), 0);
        c.due("nobody to befriend", x.ahead(0, 2), -1);
        c.due("fewest(1)", x.fewest(1), 0);
        c.due("fewest(0)", x.fewest(0), -1);
        c.due("drawn", x.drawn(9), 1);
        c.due("above", x.chance(9, 7, 0, 0), 1);
        c.due("below", x.chance(9, 7, 0, 1), 1);
    }

    private static void emptyTape(Check c) {
        c.promise("6 text, an empty THE TAPE");
        AheadOfAFriend x = new AheadOfAFriend();
        c.due("at first", x.text(), -100);
        c.due("again", x.text(), -100);
        counts(c, x, 0, 0, 0, 1, 0, 0);
        c.due("a TEXT", Check.textOf(x, "minds 1;lasts 2;irks 3;"), 1);
        c.due("behind a TEXT", x.text(), -100);
        c.due("a FAULT", Check.textOf(x, "minds 1;lasts"), -113);
        c.due("behind a FAULT", x.text(), -100);
        c.due("TEXTS", x.count(3), 2);
        c.due("feed", x.feed(32), 1);
        c.due("blanks are bytes", x.text(), -101);
        c.due("a TEXT as if nothing had been", Check.textOf(x, "minds 1;lasts 4;irks 3;"), 2);
    }

    private static void rowOfNone(Check c) {
        c.promise("24 sheet, a row of 0");
        for (int sort = 0; sort < 3; sort++) {
            AheadOfAFriend x = Check.citizens(0);
            c.due("sheet", x.sheet(0, sort, 0), 1);
            x.sheet(1, sort, 3);
            c.due("cell", x.cell(0, 0, 0), -12);
            c.due("cell", x.cell(0, -1, 0), -12);
            tells(c, x, 0, 0, -1, 63, 1023, 41, 0, 1);
            c.due("copy of none", x.copy(0, 0, 0, 0, 0), 0);
            c.due("copy of none, to its end", x.copy(0, 0, 1, 3, 0), 0);
            c.due("copy of none, into it", x.copy(1, 3, 0, 0, 0), 0);
            c.due("copy of one, from it", x.copy(0, 0, 1, 0, 1), -12);
            c.due("copy of one, into it", x.copy(1, 0, 0, 0, 1), -12);
            c.due("copy behind it", x.copy(0, 1, 1, 0, 0), -12);
            for (int as = 0; as < 3; as++) {
                c.due("none of people, as " + as, x.people(0, as, 0, 0), as == sort ? 0 : -13);
                c.due("one of people, as " + as, x.people(0, as, 0, 1), as == sort ? -12 : -13);
            }
            c.due("nobody came", x.count(0), 1);
        }
        AheadOfAFriend y = Check.citizens(0);
        y.sheet(0, 2, 5);
        c.due("film of none", y.film(0, 0), 0);
        c.due("it has none", y.cell(0, 0, 0), -12);
        c.due("of bytes", y.people(0, 0, 0, 0), 0);
    }

    private static void missingSheet(Check c) {
        c.promise("a SHEET that is missing");
        AheadOfAFriend x = Check.citizens(0);
        x.sheet(0, 0, 5);
        for (int s = 1; s < 4; s++) {
            c.due("cell", x.cell(s, 0, 0), -11);
            c.due("copy from it", x.copy(s, 0, 0, 0, 0), -11);
            c.due("copy to it", x.copy(0, 0, s, 0, 0), -11);
            c.due("copy within it", x.copy(s, 0, s, 0, 0), -11);
            for (int sort = 0; sort < 3; sort++) {
                c.due("people", x.people(s, sort, 0, 0), -11);
                c.due("people", x.people(s, sort, 0, 1), -11);
            }
            for (int what = 0; what <= 5; what++) {
                c.due("tells", x.tells(s, 0, what), -11);
            }
        }
        c.due("film lays it", x.film(1, 2), 2);
        c.due("tells", x.tells(1, 0, 0), -1);
        c.due("the others are missing still", x.cell(2, 0, 0), -11);
    }

    private static void missingAgain(Check c) {
        c.promise("24 sheet, missing again");
        AheadOfAFriend x = Check.citizens(0);
        for (int sort = 0; sort < 3; sort++) {
            Check.lay(x, 0, sort, 1, 1, 1);
            c.due("missing", x.sheet(0, -1, 3), 1);
            c.due("cell", x.cell(0, 0, 0), -11);
            c.due("missing, once more", x.sheet(0, -1, 3), 1);
            c.due("cell", x.cell(0, 0, 0), -11);
            c.due("laid anew", x.sheet(0, sort, 2), 1);
            c.due("all 0, and 0 is first", x.tells(0, 0, 0), -1);
        }
    }

    private static void noImage(Check c) {
        c.promise("22 back, no IMAGE");
        AheadOfAFriend x = Check.citizens(0, 0);
        c.due("none", x.back(), STATE);
        c.due("none still", x.back(), STATE);
        c.due("people stay", x.count(0), 2);
        c.due("image", x.image(), 2);
        c.due("there is one", x.back(), 2);
        c.due("there still is", x.back(), 2);
        c.due("of another object there is none", new AheadOfAFriend().back(), STATE);
    }
}
