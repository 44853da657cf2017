/** Promises 17 to 23: tells, film, drawn, chance, image, back, count. */
public final class ToldTest {
    private static final int MAX = Integer.MAX_VALUE, MIN = Integer.MIN_VALUE;

    public static void main(String[] args) {
        Check c = new Check();
        tells(c);
        tellsTexts(c);
        tellsRefuses(c);
        film(c);
        drawn(c);
        chance(c);
        chanceRefuses(c);
        image(c);
        back(c);
        count(c);
        c.end();
    }

    private static void all(Check c, AheadOfAFriend x, int sheet, int one, int... due) {
        for (int what = 0; what < due.length; what++) {
            c.due("tells(" + sheet + ", " + one + ", " + what + ")", x.tells(sheet, one, what), due[what]);
        }
    }

    private static void tells(Check c) {
        c.promise("17 tells");
        AheadOfAFriend x = new AheadOfAFriend();
        x.person(0, 1);
        x.person(0, 2);
        // LASTS 4 and 5: who is first behind 1, 2, .. is 0 0 0 1 1 1 1 1 -1.
        Check.lay(x, 0, 0, 0, 0, 0, 1, 1, 1, 1, 1, -1, -1);
        // 0: a HATED of number 1 lasts 3, a CLERK 2, a WIDOW 6: only a CITIZEN; NUMBER 1 alone; SERVED 0 alone.
        all(c, x, 0, 0, -1, 1, 2, 1, 0, 1);
        all(c, x, 0, 1, -1, 1, 4, 1, 0, 1);
        Check.lay(x, 1, 1, 0, 0, 0, 1, 1, 0);
        // With number 1 the SHEET is otherwise at 5; nothing makes it so.
        all(c, x, 1, 0, 5, 0, 0, 0, -1, 0);
        Check.lay(x, 2, 2, 0, 0);
        // Two minutes: LASTS of 0 must be 3 or more.
        all(c, x, 2, 0, -1, 0b011011, 1023, 2, 0, 1);
        x.set(1, 0, 0);
        // A HATED of number 0 lasts 1; LASTS 3 is CITIZEN's.
        all(c, x, 2, 0, -1, 0b001011, 1023, 1, 0, 1);
        Check.lay(x, 3, 2, 1, 1, 1);
        // 0 must leave in the first minute: CLERK, HATED, STRANGER; SERVED 2 to 40.
        all(c, x, 3, 0, 0, 0b110100, 0, 39, 2, 0);
        // Whatever 1 is, 0 is still first.
        all(c, x, 3, 1, 0, 0, 0, 0, -1, 0);
        x.sheet(3, 0, 0);
        all(c, x, 3, 1, -1, 63, 1023, 41, 0, 1);
        c.due("kind is as it was", x.told(0, 5), 0);
        c.due("number is as it was", x.told(0, 1), 0);
        c.due("served is as it was", x.told(0, 4), 0);
        c.due("minute is as it was", x.count(2), 0);
        c.due("line is as it was", Check.line(x), 12);
    }

    private static void tellsTexts(Check c) {
        c.promise("17 tells, TEXTS");
        AheadOfAFriend x = new AheadOfAFriend();
        x.person(0, 0);
        Check.textOf(x, "minds 0;lasts 2;irks 0;");
        Check.textOf(x, "minds 0;lasts 3;irks 0;");
        Check.textOf(x, "minds 0;lasts 1+(minute<1000)+(minute<1001);irks 0;");
        x.set(0, 0, 999);
        Check.lay(x, 0, 0, 0, 0, -1);
        c.due("texts of lasts 3", x.tells(0, 0, 5), 0b0101);
        Check.lay(x, 0, 0, 0, -1, -1);
        c.due("texts of lasts 2, and one that lasts 3 in minute 999 and 2 in 1000", x.tells(0, 0, 5), 0b1010);
        c.due("the rule is as it was", x.count(5), 0);
        // Of 255, as of 0xff, a SHEET of bytes makes -1, one of shorts doesn't.
        Check.lay(x, 1, 0, 0, 0, 255);
        c.due("bytes", x.tells(1, 0, 0), -1);
        Check.lay(x, 1, 1, 0, 0, 255);
        c.due("shorts", x.tells(1, 0, 0), 2);
        Check.lay(x, 1, 1, 0, 0, 0xffff);
        c.due("shorts", x.tells(1, 0, 0), -1);
        int[] longest = new int[30];
        for (int i = 2; i < 30; i++) {
            longest[i] = -1;
        }
        Check.lay(x, 2, 2, longest);
        c.due("thirty", x.tells(2, 0, 0), -1);
    }

    private static void tellsRefuses(Check c) {
        c.promise("17 tells, refusals");
        AheadOfAFriend x = new AheadOfAFriend();
        c.due("none such", x.tells(0, 0, 0), -2);
        x.person(0, 0);
        x.sheet(2, 0, 31);
        int[][] due = {
            {-1, 0, 0, -2}, {4, 0, 0, -2}, {MAX, 0, 0, -2}, {MIN, 0, 0, -2}, {0, 1, 0, -2}, {0, -1, 0, -2}, {0, 0, 6, -2},
            {0, 0, -1, -2}, {0, 0, 0, -11}, {0, 0, 5, -11}, {2, 0, 0, -2}, {2, 0, 3, -2}, {2, 1, 0, -2}};
        for (int[] d : due) {
            c.due("tells(" + d[0] + ", " + d[1] + ", " + d[2] + ")", x.tells(d[0], d[1], d[2]), d[3]);
        }
    }

    private static void film(Check c) {
        c.promise("18 film");
        AheadOfAFriend x = new AheadOfAFriend();
        x.person(0, 0);
        x.person(5, 0);
        x.sheet(1, 2, 40);
        c.due("film", x.film(1, 6), 6);
        int[] due = {0, 0, 1, -1, -1, -1};
        x.sheet(2, 0, 6);
        for (int i = 0; i < 6; i++) {
            x.cell(2, i, due[i]);
        }
        c.due("what was filmed is so", x.tells(1, 0, 0), -1);
        c.due("its size", x.cell(1, 6, 0), -12);
        c.due("bytes", x.copy(1, 0, 2, 0, 6), 6);
        c.due("they are as due", x.tells(2, 0, 0), -1);
        c.due("line is as it was", Check.line(x), 12);
        c.due("minute is as it was", x.count(2), 0);
        c.due("served is as it was", x.told(0, 4), 0);
        filmed(c, x, due);
        c.due("none", x.film(1, 0), 0);
        c.due("nothing in it", x.cell(1, 0, 0), -12);
        c.due("thirty", x.film(3, 30), 30);
        c.due("thirty", x.tells(3, 0, 0), -1);
        int[][] bad = {{-1, 0}, {4, 0}, {0, -1}, {0, 31}, {MAX, 1}, {0, MAX}, {0, MIN}};
        for (int[] b : bad) {
            c.due("film(" + b[0] + ", " + b[1] + ")", x.film(b[0], b[1]), -2);
        }
        c.due("still missing", x.cell(0, 0, 0), -11);
        c.due("refused, so as it was", x.film(3, 31), -2);
        c.due("refused, so as it was", x.cell(3, 29, 0), 1);
    }

    /** Looks at each item of SHEET 1 by laying what is due beside it: tells() says where the first other one is. */
    private static void filmed(Check c, AheadOfAFriend x, int[] due) {
        for (int i = 0; i < due.length; i++) {
            x.film(1, due.length);
            x.cell(1, i, due[i] + 1);
            c.due("item " + i + " was as due", x.tells(1, 0, 0), i);
        }
    }

    /** ORDERS and who could come first, with the likes that a seed draws, truly laid. */
    private static AheadOfAFriend laid(int people, int seed) {
        AheadOfAFriend x = new AheadOfAFriend();
        for (int i = 0; i < people; i++) {
            x.person(i == 0 ? 5 : i == 2 ? 3 : 0, i);
        }
        // Who is first leaves at once and comes last, so that places aren't as numbers are.
        x.minute();
        x.come(0);
        int z = seed;
        for (int i = 0; i < people; i++) {
            z = z * 1103515245 + 12345;
            int bits = (z >>> 9) % 32;
            bits &= ~(1 << i);
            bits &= (1 << people) - 1;
            x.set(2, i, bits);
        }
        return x;
    }

    private static final int[] SEEDS = {0, 1, -1, 2, 77, 12345, MAX, MIN, 99999, -1234567, 31, 32, 1 << 20};

    private static void drawn(Check c) {
        c.promise("19 drawn");
        c.due("nobody", new AheadOfAFriend().drawn(5), 1);
        for (int people = 1; people <= 5; people++) {
            for (int seed : SEEDS) {
                AheadOfAFriend x = laid(people, 4242);
                String was = Check.state(x);
                c.due("drawn(" + seed + ") of " + people, x.drawn(seed), laid(people, seed).orders(0));
                c.holds("likes are as they were", was.equals(Check.state(x)));
            }
        }
        // By hand: seed 1 gives z = 1103527590; >>> 9 is 2155327, % 32 is 31: 0 likes 1. 1 never is ahead of 0.
        AheadOfAFriend y = new AheadOfAFriend();
        y.person(0, 0);
        y.person(5, 0);
        c.due("drawn(1)", y.drawn(1), 2);
    }

    private static void chance(Check c) {
        c.promise("20 chance");
        for (int seed : SEEDS) {
            for (int m = 1; m <= 10; m++) {
                AheadOfAFriend x = laid(4, 4242);
                for (int one = 0; one < 4; one++) {
                    int good = 0;
                    for (int i = 0; i < m; i++) {
                        good += laid(4, seed + i).ahead(one, 0) == 0 ? 1 : 0;
                    }
                    int g = good;
                    int h = m;
                    while (h != 0) {
                        int rest = g % h;
                        g = h;
                        h = rest;
                    }
                    c.due("above", x.chance(seed, m, one, 0), good / g);
                    c.due("below", x.chance(seed, m, one, 1), m / g);
                }
            }
        }
        AheadOfAFriend y = new AheadOfAFriend();
        y.person(5, 0);
        y.person(0, 0);
        c.due("the first always can", y.chance(9, 10, 0, 0), 1);
        c.due("the first always can", y.chance(9, 10, 0, 1), 1);
        c.due("behind a stranger never", y.chance(9, 10, 1, 0), 0);
        c.due("behind a stranger never", y.chance(9, 10, 1, 1), 1);
        y.minute();
        c.due("not in the line", y.chance(9, 10, 0, 0), 0);
        c.due("not in the line", y.chance(9, 10, 0, 1), 1);
    }

    private static void chanceRefuses(Check c) {
        c.promise("20 chance, refusals");
        AheadOfAFriend x = new AheadOfAFriend();
        c.due("none such", x.chance(0, 1, 0, 0), AheadOfAFriend.NO);
        x.person(0, 0);
        int[][] bad = {{0, 0, 0}, {11, 0, 0}, {-1, 0, 0}, {MIN, 0, 0}, {1, 1, 0}, {1, -1, 0}, {1, 0, 2}, {1, 0, -1}, {1, MAX, 0}};
        for (int[] b : bad) {
            c.due("chance", x.chance(0, b[0], b[1], b[2]), AheadOfAFriend.NO);
        }
        c.due("NO", AheadOfAFriend.NO, -4611686018427387904L);
    }

    private static void image(Check c) {
        c.promise("21 image");
        AheadOfAFriend x = new AheadOfAFriend();
        c.due("of nobody", x.image(), 0);
        x.person(0, 0);
        c.due("nobody again", x.back(), 0);
        c.due("people", x.count(0), 0);
        c.due("line", x.count(1), 0);
        x.person(1, 1);
        x.person(2, 2);
        c.due("of two", x.image(), 2);
        x.person(3, 3);
        c.due("the newest is kept", x.back(), 2);
        c.due("and can be taken again", x.back(), 2);
    }

    private static void back(Check c) {
        c.promise("22 back");
        AheadOfAFriend x = new AheadOfAFriend();
        c.due("there is none", x.back(), -3);
        x.person(0, 1);
        x.person(5, 2);
        x.person(3, 3);
        Check.textOf(x, "minds 0;lasts 2;irks 0;");
        x.set(0, 0, 50);
        x.set(2, 0, 22);
        x.set(3, 1, 11);
        x.set(4, 0, 2);
        x.force(1);
        String was = Check.state(x);
        x.image();
        x.set(0, 0, 60);
        x.set(1, 2, 9);
        x.set(2, 0, 0);
        x.set(2, 2, 3);
        x.set(3, 1, 0);
        x.set(3, 2, 4);
        x.minute();
        x.minute();
        x.person(4, 4);
        x.set(2, 3, 1);
        x.set(3, 3, 5);
        x.set(4, 3, 6);
        x.haste();
        x.come(0);
        x.force(0);
        Check.feedAll(x, "min");
        x.sheet(0, 0, 5);
        c.due("back", x.back(), 3);
        c.due("the tape stays", x.count(4), 3);
        c.due("the sheet stays", x.cell(0, 4, 1), 1);
        c.due("what can't be read", x.text(), -100);
        c.holds("all is as it was", was.equals(Check.state(x)));
        c.due("who came since isn't", x.told(3, 1), -2);
        Check.textOf(x, "minds 0;lasts 9;irks 0;");
        x.back();
        c.due("texts stay", x.count(3), 3);
        c.due("a new one comes anew", x.person(2, 7), 3);
        c.due("kind", x.told(3, 5), 2);
        c.due("likes", x.told(3, 2), 0);
        c.due("gifts", x.told(3, 3), 0);
        c.due("served", x.told(3, 4), 0);
        c.due("line", Check.line(x), 1234);
    }

    private static void count(Check c) {
        c.promise("23 count");
        AheadOfAFriend x = new AheadOfAFriend();
        x.person(5, 0);
        x.person(0, 0);
        x.person(0, 0);
        x.minute();
        Check.textOf(x, "minds 0;lasts 9;irks 0;");
        x.force(1);
        Check.feedAll(x, "minds");
        int[] due = {3, 2, 1, 2, 5, 1};
        for (int what = 0; what < due.length; what++) {
            c.due("count(" + what + ")", x.count(what), due[what]);
        }
        for (int what : new int[] {-1, 6, MAX, MIN}) {
            c.due("count(" + what + ")", x.count(what), -2);
        }
    }
}
