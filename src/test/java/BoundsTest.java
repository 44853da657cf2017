/** Too small, too large: of each bound the last that is taken, and the first that isn't, at both ends. */
public final class BoundsTest {
    private static final int MAX = Integer.MAX_VALUE, MIN = Integer.MIN_VALUE;
    private static final int BAD = -2;

    public static void main(String[] args) {
        Check c = new Check();
        set(c);
        setLikes(c);
        setOfWhom(c);
        person(c);
        told(c);
        textsAndTape(c);
        numbersOfAText(c);
        faultAtTheTapesEnd(c);
        lasts(c);
        irks(c);
        theLine(c);
        theLastMinute(c);
        mindingBegins(c);
        orders(c);
        fewest(c);
        wait(c);
        ahead(c);
        runMinutes(c);
        runWhat(c);
        tells(c);
        tellsThirty(c);
        tellsServed(c);
        film(c);
        chance(c);
        count(c);
        sheet(c);
        cell(c);
        copy(c);
        people(c);
        taken(c);
        c.end();
    }

    private static AheadOfAFriend two() {
        AheadOfAFriend x = new AheadOfAFriend();
        x.person(0, 3);
        x.person(0, 4);
        return x;
    }

    private static void set(Check c) {
        c.promise("2 set, bounds");
        AheadOfAFriend x = two();
        c.ends("MINUTE", v -> x.set(0, 0, v), BAD, 0, 0, 999, 0);
        c.due("MINUTE", x.count(2), 999);
        c.ends("NUMBER", v -> x.set(1, 1, v), BAD, 0, 4, 9, 0);
        c.due("NUMBER", x.told(1, 1), 9);
        c.ends("GIFTS", v -> x.set(3, 1, v), BAD, 0, 0, 99, 0);
        c.due("GIFTS", x.told(1, 3), 99);
        c.ends("SERVED", v -> x.set(4, 1, v), BAD, 0, 0, 40, 0);
        c.due("SERVED", x.told(1, 4), 40);
        c.ends("what", v -> x.set(v, 1, 5), BAD, 0, 999, 4, 40);
        c.due("MINUTE by what 0", x.told(1, 0), 5);
        c.due("SERVED by what 4", x.told(1, 4), 5);
    }

    private static void setLikes(Check c) {
        c.promise("2 set, bits of what one LIKES");
        AheadOfAFriend x = Check.citizens(0, 0, 0, 0, 0);
        c.ends("LIKES of 0", v -> x.set(2, 0, v), BAD, 0, 0, 30, 0);
        c.ends("LIKES of 4", v -> x.set(2, 4, v), BAD, 0, 0, 15, 0);
        for (int one = 0; one < 5; one++) {
            x.set(2, one, 0);
            int others = 31 & ~(1 << one);
            c.due("all others, of " + one, x.set(2, one, others), 0);
            c.due("oneself too, of " + one, x.set(2, one, 31), BAD);
            c.due("oneself alone, of " + one, x.set(2, one, 1 << one), BAD);
            c.due("a bit too many, of " + one, x.set(2, one, 32), BAD);
            c.due("as it was, of " + one, x.told(one, 2), others);
            for (int other = 0; other < 5; other++) {
                c.holds("one other, of " + one, other == one || x.set(2, one, 1 << other) >= 0);
            }
        }
        AheadOfAFriend alone = Check.citizens(0);
        for (int bit = 1; bit < 5; bit++) {
            c.holds("those who aren't yet, " + bit, alone.set(2, 0, 1 << bit) >= 0);
            c.due("those who aren't yet, " + bit, alone.told(0, 2), 1 << bit);
        }
    }

    private static void setOfWhom(Check c) {
        c.promise("2 set, of whom");
        for (int what = 1; what <= 4; what++) {
            int w = what;
            AheadOfAFriend x = two();
            c.ends("set(" + what + ", v, 0)", v -> x.set(w, v, 0), BAD, 0, what == 1 ? 3 : 0, 1, what == 1 ? 4 : 0);
            AheadOfAFriend nobody = new AheadOfAFriend();
            c.due("nobody, " + what, nobody.set(what, 0, 0), BAD);
            AheadOfAFriend full = Check.citizens(0, 0, 0, 0, 0);
            c.ends("of five, set(" + what + ", v, 0)", v -> full.set(w, v, 0), BAD, 0, 0, 4, 0);
        }
        AheadOfAFriend x = two();
        int was = 0;
        for (int of : new int[] {-1, 2, 5, MIN, MAX}) {
            c.due("of does not matter: " + of, x.set(0, of, was + 1), was);
            was++;
        }
    }

    private static void person(Check c) {
        c.promise("3 person, bounds");
        c.ends("KIND", v -> new AheadOfAFriend().person(v, 0), BAD, 0, 0, 5, 0);
        c.ends("NUMBER", v -> new AheadOfAFriend().person(0, v), BAD, 0, 0, 9, 0);
        AheadOfAFriend x = new AheadOfAFriend();
        for (int i = 0; i < 5; i++) {
            c.due("person", x.person(i == 4 ? 5 : 0, i == 4 ? 9 : 0), i);
        }
        c.due("KIND", x.told(4, 5), 5);
        c.due("NUMBER", x.told(4, 1), 9);
        c.due("the sixth", x.person(0, 0), -4);
    }

    private static void told(Check c) {
        c.promise("4 told, bounds");
        AheadOfAFriend x = two();
        x.set(0, 0, 77);
        for (int what = 1; what <= 14; what++) {
            for (int of : new int[] {-1, 2, 4, 5, MIN, MAX}) {
                c.due("told(" + of + ", " + what + ")", x.told(of, what), BAD);
            }
            c.holds("told(0, " + what + ")", x.told(0, what) != BAD && x.told(1, what) != BAD);
        }
        c.ends("of", v -> x.told(v, 1), BAD, 0, 3, 1, 4);
        c.ends("what", v -> x.told(0, v), BAD, 0, 77, 14, 1);
        for (int of : new int[] {-1, 2, MIN, MAX}) {
            c.due("MINUTE, of " + of, x.told(of, 0), 77);
        }
        // All LIKE all: whom one LIKES it doesn't mind, but oneself and those who aren't it does.
        x.set(2, 0, 30);
        x.set(2, 1, 29);
        int[][] minds = {{1, 0, 1, 1, 1}, {0, 1, 1, 1, 1}};
        for (int one = 0; one < 2; one++) {
            for (int other = 0; other < 5; other++) {
                c.due(one + " minds " + other, x.told(one, 10 + other), minds[one][other]);
            }
        }
        AheadOfAFriend brides = new AheadOfAFriend();
        brides.person(3, 0);
        c.due("a BRIDE by herself", brides.told(0, 10), 1);
        c.due("a BRIDE by none such", brides.told(0, 11), 1);
        c.due("a BRIDE by none such", brides.told(0, 14), 1);
    }

    private static void textsAndTape(Check c) {
        c.promise("5 feed, 7 force, bounds");
        AheadOfAFriend x = new AheadOfAFriend();
        c.ends("feed", v -> x.feed(v), BAD, 0, 1, 255, 2);
        c.due("bytes", x.count(4), 2);
        AheadOfAFriend y = new AheadOfAFriend();
        c.ends("force, of one TEXT", v -> y.force(v), BAD, 0, 0, 0, 0);
        Check.textOf(y, "minds 1;lasts 2;irks 3;");
        c.ends("force, of two TEXTS", v -> y.force(v), BAD, 0, 0, 1, 0);
        for (int i = 2; i < 6; i++) {
            Check.textOf(y, "minds 1;lasts 2;irks 3;");
        }
        c.ends("force, of six TEXTS", v -> y.force(v), BAD, 0, 1, 5, 0);
        c.due("THE RULE", y.count(5), 5);
    }

    private static void fault(Check c, String s, int place) {
        AheadOfAFriend x = new AheadOfAFriend();
        c.due("\"" + s + "\"", Check.textOf(x, s), place < 0 ? 1 : -100 - place);
        c.due("TEXTS behind \"" + s + "\"", x.count(3), place < 0 ? 2 : 1);
        c.due("THE TAPE behind \"" + s + "\"", x.count(4), 0);
    }

    private static void numbersOfAText(Check c) {
        c.promise("6 text, NUMBERS of a TEXT");
        String end = ";lasts 1;irks 1;";
        fault(c, "minds 0" + end, -1);
        fault(c, "minds 9" + end, -1);
        fault(c, "minds 9999" + end, -1);
        fault(c, "minds 10000" + end, 6);
        fault(c, "minds 0000" + end, -1);
        fault(c, "minds 00000" + end, 6);
        fault(c, "minds 1+99999" + end, 8);
        fault(c, "minds 1 9999" + end, 8);
        fault(c, "minds 4294967297" + end, 6);
        // What stands right beside the digits and the letters, and begins no TOKEN.
        for (char near : new char[] {'/', ':', '`', '{', '\'', ',', '.', '>', '?', '!', '\t', '\r', (char) 11, (char) 31, (char) 33, (char) 9, (char) 0, (char) 127, (char) 128, (char) 255}) {
            fault(c, "minds 1" + near + end, 7);
        }
        fault(c, "minds" + (char) 32 + (char) 10 + "1" + end, -1);
        AheadOfAFriend x = new AheadOfAFriend();
        x.person(0, 0);
        x.force(Check.textOf(x, "minds 0;lasts 9999-9960;irks 0099;"));
        c.due("9999 - 9960", x.told(0, 7), 39);
        c.due("0099", x.told(0, 8), 99);
    }

    private static void faultAtTheTapesEnd(Check c) {
        c.promise("6 text, 160 bytes");
        String most = "minds 1;lasts 2;irks 3" + "+1".repeat(68) + " ;";
        c.due("bytes", most.length(), 160);
        fault(c, most, -1);
        fault(c, most.substring(0, 159) + ")", 159);
        fault(c, most.substring(0, 159) + " ", 160);
        fault(c, most.substring(0, 159), 159);
        fault(c, " ".repeat(160), 160);
        fault(c, "a".repeat(160), 0);
        fault(c, "1".repeat(160), 0);
        fault(c, " ".repeat(159) + "m", 159);
        fault(c, " ".repeat(155) + "minds", 160);
        AheadOfAFriend x = new AheadOfAFriend();
        x.person(0, 0);
        x.force(Check.textOf(x, most));
        c.due("irks", x.told(0, 8), 71);
    }

    /** What a TEXT tells (its own bound first), and what each KIND makes of it; NUMBER is 9. */
    private static void lasts(Check c) {
        c.promise("4 told, LASTS 1 .. 40");
        String[] told = {"-1", "0", "1", "2", "3", "37", "38", "39", "40", "41", "80"};
        int[][] due = {
            {1, 1, 1, 2, 3, 37, 38, 39, 40, 40, 40}, {2, 2, 3, 4, 5, 39, 40, 40, 40, 40, 40},
            {1, 1, 1, 1, 1, 18, 19, 19, 20, 20, 20}, {2, 2, 3, 4, 5, 39, 40, 40, 40, 40, 40},
            {9, 9, 9, 10, 10, 27, 28, 28, 29, 29, 29}, {1, 1, 1, 1, 1, 1, 1, 1, 1, 1, 1}};
        for (int t = 0; t < told.length; t++) {
            for (int kind = 0; kind < 6; kind++) {
                AheadOfAFriend x = new AheadOfAFriend();
                x.force(Check.textOf(x, "minds 0;lasts " + told[t] + ";irks 0;"));
                x.person(kind, 9);
                c.due("lasts " + told[t] + ", KIND " + kind, x.told(0, 7), due[kind][t]);
            }
        }
        AheadOfAFriend x = new AheadOfAFriend();
        x.force(Check.textOf(x, "minds 0;lasts 1;irks 0;"));
        x.person(4, 0);
        c.due("a HATED of NUMBER 0", x.told(0, 7), 1);
    }

    private static void irks(Check c) {
        c.promise("4 told, IRKS 0 .. 99");
        String[] told = {"-1", "0", "1", "49", "50", "89", "90", "91", "98", "99", "100"};
        int[][] due = {
            {0, 0, 1, 49, 50, 89, 90, 91, 98, 99, 99}, {0, 0, 1, 49, 50, 89, 90, 91, 98, 99, 99},
            {0, 0, 2, 98, 99, 99, 99, 99, 99, 99, 99}, {9, 9, 10, 58, 59, 98, 99, 99, 99, 99, 99},
            {0, 0, 2, 98, 99, 99, 99, 99, 99, 99, 99}, {0, 0, 0, 0, 0, 0, 0, 0, 0, 0, 0}};
        for (int t = 0; t < told.length; t++) {
            for (int kind = 0; kind < 6; kind++) {
                AheadOfAFriend x = new AheadOfAFriend();
                x.force(Check.textOf(x, "minds 0;lasts 0;irks " + told[t] + ";"));
                x.person(kind, 9);
                c.due("irks " + told[t] + ", KIND " + kind, x.told(0, 8), due[kind][t]);
            }
        }
    }

    private static void theLine(Check c) {
        c.promise("8 first, 9 pass, 12 come, bounds");
        AheadOfAFriend x = Check.citizens(2, 0, 0, 16, 0);
        c.ends("first", v -> x.first(v), BAD, 0, 0, 4, 4);
        c.ends("pass", v -> x.pass(v), BAD, 0, -3, 4, 3);
        AheadOfAFriend y = Check.citizens(2, 0);
        c.ends("pass, of two", v -> y.pass(v), BAD, 0, -3, 1, 0);
        c.due("line", Check.line(y), 21);
        Check.send(y);
        Check.send(y);
        c.ends("come, of two", v -> y.come(v), BAD, 0, 0, 1, 1);
        AheadOfAFriend z = Check.citizens(0, 0, 0, 0, 0);
        for (int i = 0; i < 5; i++) {
            Check.send(z);
        }
        c.ends("come, of five", v -> z.come(v), BAD, 0, 0, 4, 1);
        c.due("line", Check.line(z), 15);
    }

    private static void theLastMinute(Check c) {
        c.promise("11 minute, 999");
        AheadOfAFriend x = Check.citizens(0, 0);
        x.set(0, 0, 998);
        c.due("in MINUTE 998", x.minute(), -1);
        c.due("MINUTE", x.count(2), 999);
        c.due("in MINUTE 999", x.minute(), -3);
        c.due("SERVED", x.told(0, 4), 1);
        c.due("MINUTE", x.count(2), 999);
        // As much as the errand LASTS, not one less; SERVED may be 41 by a MINUTE, not by set().
        x.set(0, 0, 0);
        x.set(4, 0, 1);
        c.due("one less", x.minute(), -1);
        c.due("as much", x.minute(), 0);
        x.force(Check.textOf(x, "minds 0;lasts 40;irks 0;"));
        x.set(4, 1, 38);
        c.due("39 of 40", x.minute(), -1);
        c.due("40 of 40", x.minute(), 1);
        x.come(0);
        x.set(4, 0, 40);
        c.due("41 of 40", x.minute(), 0);
        c.due("SERVED", x.told(0, 4), 41);
    }

    /** From where on one minds: SERVED above 0, no GIFTS, a lesser NUMBER, a text that isn't 0. */
    private static void mindingBegins(Check c) {
        c.promise("9 pass, where minding begins");
        AheadOfAFriend x = Check.citizens(2, 1);
        x.set(4, 0, 1);
        c.due("SERVED 1", x.pass(1), -3);
        x.set(4, 0, 0);
        c.due("SERVED 0", x.pass(1), 0);
        AheadOfAFriend y = new AheadOfAFriend();
        y.force(Check.textOf(y, "minds 0;lasts 1;irks 1;"));
        y.person(4, 5);
        y.person(0, 5);
        c.due("no GIFTS", y.told(0, 11), 1);
        y.set(3, 1, 1);
        c.due("1 of GIFTS, a like NUMBER", y.told(0, 11), 0);
        y.set(1, 1, 4);
        c.due("a lesser NUMBER", y.told(0, 11), 1);
        y.set(1, 1, 6);
        c.due("a greater NUMBER", y.told(0, 11), 0);
        String[] told = {"0", "1", "-1", "2", "0*5", "1-1"};
        int[] due = {0, 1, 1, 1, 0, 0};
        for (int t = 0; t < told.length; t++) {
            AheadOfAFriend z = Check.citizens(0, 0);
            z.force(Check.textOf(z, "minds " + told[t] + ";lasts 1;irks 1;"));
            c.due("minds " + told[t], z.told(0, 11), due[t]);
        }
    }

    private static void orders(Check c) {
        c.promise("13 orders, what");
        AheadOfAFriend x = Check.citizens(2, 1);
        c.ends("orders", v -> x.orders(v), BAD, 0, 2, 6, 1);
    }

    private static void fewest(Check c) {
        c.promise("14 fewest, digits");
        AheadOfAFriend x = Check.citizens(2, 1);
        c.due("fewest(-1)", x.fewest(-1), BAD);
        c.due("fewest(MIN)", x.fewest(MIN), BAD);
        c.due("fewest(-12)", x.fewest(-12), BAD);
        int[][] due = {
            {0, -1}, {1, -1}, {2, -1}, {11, -1}, {12, 0}, {13, -1}, {20, -1}, {21, 1}, {22, -1}, {102, -1}, {112, -1}, {120, -1}, {121, -1}, {123, -1}, {MAX, -1}};
        for (int[] d : due) {
            c.due("fewest(" + d[0] + ")", x.fewest(d[0]), d[1]);
        }
        AheadOfAFriend one = Check.citizens(0);
        c.due("alone", one.fewest(1), 0);
        c.due("alone", one.fewest(0), -1);
        AheadOfAFriend five = Check.citizens(30, 29, 27, 23, 15);
        c.due("the least digits", five.fewest(12345), 0);
        c.due("the greatest digits", five.fewest(54321), 10);
        c.due("below the least", five.fewest(12344), -1);
        c.due("above the greatest", five.fewest(54322), -1);
    }

    private static void wait(Check c) {
        c.promise("13 orders, WAIT, 1 at least");
        AheadOfAFriend x = Check.citizens(0, 0, 0);
        int[][] due = {{0, 3 + 6}, {1, 2 + 5}, {2, 1 + 4}, {3, 1 + 4}, {4, 1 + 4}, {40, 1 + 4}};
        for (int[] d : due) {
            x.set(4, 0, d[0]);
            c.due("SERVED " + d[0], x.orders(1), d[1]);
            c.due("SERVED " + d[0], x.orders(3), d[1]);
        }
        // LASTS 40, IRKS 99 of all five: 40 + 80 + 120 + 160 MINUTES.
        AheadOfAFriend y = Check.citizens(0, 0, 0, 0, 0);
        y.force(Check.textOf(y, "minds 1;lasts 40;irks 99;"));
        c.due("the most", y.orders(1), 400 * 99);
    }

    private static void ahead(Check c) {
        c.promise("15 ahead, bounds");
        AheadOfAFriend x = Check.citizens(0, 0);
        c.ends("ahead(v, 0), of two", v -> x.ahead(v, 0), BAD, 0, 0, 1, 1);
        c.ends("ahead(1, v)", v -> x.ahead(1, v), BAD, 0, 1, 2, 0);
        AheadOfAFriend y = Check.citizens(0, 0, 0, 0, 0);
        for (int what = 0; what < 3; what++) {
            int w = what;
            int[] due = {4, 0, 3};
            c.ends("ahead(v, " + what + "), of five", v -> y.ahead(v, w), BAD, 0, new int[] {0, 0, -1}[what], 4, due[what]);
        }
    }

    private static void runMinutes(Check c) {
        c.promise("16 run, n MINUTES");
        AheadOfAFriend x = Check.citizens(0, 0);
        x.set(1, 0, 9);
        // LASTS 40 and 20: the second leaves in the last MINUTE that can be thought of.
        x.force(Check.textOf(x, "minds 0;lasts 20+20*(number=9);irks 0;"));
        c.ends("run(v, 0)", v -> x.run(v, 0), BAD, 0, 2, 60, 0);
        c.ends("run(v, 1)", v -> x.run(v, 1), BAD, 0, 0, 60, -1);
        c.ends("run(v, 10)", v -> x.run(v, 10), BAD, 0, -1, 60, 39);
        c.ends("run(v, 11)", v -> x.run(v, 11), BAD, 0, -1, 60, 59);
        int[][] due = {{39, 2, 0, -1, -1}, {40, 1, 1, 39, -1}, {59, 1, 1, 39, -1}};
        for (int[] d : due) {
            c.due("how many behind " + d[0], x.run(d[0], 0), d[1]);
            c.due("who is first behind " + d[0], x.run(d[0], 1), d[2]);
            c.due("0 leaves, " + d[0], x.run(d[0], 10), d[3]);
            c.due("1 leaves, " + d[0], x.run(d[0], 11), d[4]);
        }
        x.set(0, 0, 999);
        c.due("from MINUTE 999 on", x.run(60, 11), 59);
        c.due("MINUTE", x.count(2), 999);
    }

    private static void runWhat(Check c) {
        c.promise("16 run, what");
        AheadOfAFriend x = Check.citizens(0, 0);
        for (int what : new int[] {-1, 2, 3, 9, 12, 14, 15, MIN, MAX, MIN + 9, MIN + 10}) {
            c.due("run(5, " + what + ")", x.run(5, what), BAD);
        }
        int[][] due = {{0, 1}, {1, 1}, {10, 2}, {11, -1}};
        for (int[] d : due) {
            c.due("run(5, " + d[0] + ")", x.run(5, d[0]), d[1]);
        }
        AheadOfAFriend y = Check.citizens(0, 0, 0, 0, 0);
        c.due("the fifth", y.run(60, 14), 14);
        c.due("a sixth", y.run(60, 15), BAD);
    }

    private static void tells(Check c) {
        c.promise("17 tells, bounds");
        AheadOfAFriend x = two();
        for (int s = 0; s < 4; s++) {
            Check.lay(x, s, s % 3, 0, 0, s);
        }
        c.ends("tells(v, 0, 0)", v -> x.tells(v, 0, 0), BAD, 0, -1, 3, 2);
        c.ends("tells(0, v, 1)", v -> x.tells(0, v, 1), BAD, 0, 0b011011, 1, 63);
        c.ends("tells(0, 0, v)", v -> x.tells(0, 0, v), BAD, 0, -1, 5, 1);
        for (int what = 0; what <= 5; what++) {
            c.due("none such, " + what, x.tells(0, 2, what), BAD);
            c.due("none such, " + what, x.tells(0, -1, what), BAD);
            c.holds("one, " + what, x.tells(0, 1, what) != BAD);
        }
    }

    private static void tellsThirty(Check c) {
        c.promise("17 tells, 30 at most");
        for (int sort = 0; sort < 3; sort++) {
            AheadOfAFriend x = Check.citizens(0);
            x.force(Check.textOf(x, "minds 0;lasts 30;irks 0;"));
            x.sheet(0, sort, 30);
            x.sheet(1, sort, 31);
            x.sheet(2, sort, 40);
            c.due("the thirtieth is otherwise", x.tells(0, 0, 0), 29);
            x.cell(0, 29, -1);
            c.due("all thirty are so", x.tells(0, 0, 0), -1);
            int[] due = {-1, 0b000001, 1023, 1, 0, 0b10};
            for (int what = 0; what <= 5; what++) {
                c.due("thirty, " + what, x.tells(0, 0, what), due[what]);
                c.due("thirty-one, " + what, x.tells(1, 0, what), BAD);
                c.due("forty, " + what, x.tells(2, 0, what), BAD);
            }
        }
    }

    /** Of all that might be, the ends: KINDS 0 and 5, NUMBERS 0 and 9, SERVED 0 and 40, TEXTS 0 and 5. */
    private static void tellsServed(Check c) {
        c.promise("17 tells, the ends of what might be");
        AheadOfAFriend x = Check.citizens(0);
        for (int t = 1; t < 6; t++) {
            Check.textOf(x, "minds 0;lasts " + (t == 5 ? "3" : "40") + ";irks 0;");
        }
        x.force(1);
        // LASTS 40: it leaves in the first MINUTE with SERVED 39 and 40 alone.
        Check.lay(x, 0, 0, -1);
        c.due("SERVED, how many", x.tells(0, 0, 3), 2);
        c.due("SERVED, the least", x.tells(0, 0, 4), 39);
        c.due("only a STRANGER", x.tells(0, 0, 1), 0b100000);
        c.due("no NUMBER", x.tells(0, 0, 2), 0);
        c.due("no TEXT", x.tells(0, 0, 5), 0);
        Check.lay(x, 0, 0, 0, 0, -1);
        c.due("TEXTS 0 and 5", x.tells(0, 0, 5), 0b100001);
        x.force(0);
        c.due("NUMBER 0", x.tells(0, 0, 2), 1);
        x.sheet(0, 0, 12);
        x.cell(0, 11, -1);
        c.due("NUMBER 9", x.tells(0, 0, 2), 1 << 9);
        x.sheet(0, 0, 3);
        c.due("SERVED none", x.tells(0, 0, 3), 0);
        c.due("SERVED none", x.tells(0, 0, 4), -1);
        c.due("the first is otherwise", x.tells(0, 0, 0), 2);
        Check.lay(x, 0, 0, 1, 1);
        c.due("at once", x.tells(0, 0, 0), 0);
    }

    private static void film(Check c) {
        c.promise("18 film, bounds");
        AheadOfAFriend x = Check.citizens(0);
        x.force(Check.textOf(x, "minds 0;lasts 30;irks 0;"));
        c.ends("film(0, v)", v -> x.film(0, v), BAD, 0, 0, 30, 30);
        c.due("the thirtieth", x.cell(0, 29, -1), 1);
        c.due("no more", x.cell(0, 30, -1), -12);
        c.ends("film(v, 30)", v -> x.film(v, 30), BAD, 0, 30, 3, 30);
        c.due("as it goes", x.tells(3, 0, 0), -1);
        x.cell(3, 29, 0);
        c.due("nobody was the thirtieth", x.tells(3, 0, 0), 29);
    }

    private static void chance(Check c) {
        c.promise("20 chance, bounds");
        long no = AheadOfAFriend.NO;
        AheadOfAFriend x = Check.citizens(0, 0);
        c.ends("m", v -> x.chance(1, v, 0, 1), no, 1, 1, 10, 1);
        c.ends("one", v -> x.chance(1, 10, v, 0), no, 0, 1, 1, 2);
        c.ends("part", v -> x.chance(1, 10, 1, v), no, 0, 2, 1, 5);
        for (int seed : new int[] {MIN, MAX, -1, 0}) {
            c.due("any SEED", x.chance(seed, 10, 0, 0), 1);
            c.holds("any SEED", x.drawn(seed) >= 1);
        }
        c.due("nobody", new AheadOfAFriend().chance(1, 1, 0, 0), no);
    }

    private static void count(Check c) {
        c.promise("23 count, what");
        AheadOfAFriend x = two();
        Check.textOf(x, "minds 0;lasts 30;irks 0;");
        x.force(1);
        c.ends("count", v -> x.count(v), BAD, 0, 2, 5, 1);
    }

    private static void sheet(Check c) {
        c.promise("24 sheet, bounds");
        AheadOfAFriend x = new AheadOfAFriend();
        c.ends("sheet(v, 0, 1)", v -> x.sheet(v, 0, 1), BAD, 0, 1, 3, 1);
        c.ends("sheet(v, -1, 1)", v -> x.sheet(v, -1, 1), BAD, 0, 1, 3, 1);
        c.ends("sheet(0, v, 1)", v -> x.sheet(0, v, 1), BAD, -1, 1, 2, 1);
        for (int sort = 0; sort < 3; sort++) {
            c.due("n 0", x.sheet(1, sort, 0), 1);
            c.due("n 0 has none", x.cell(1, 0, 0), -12);
            c.due("n 40", x.sheet(1, sort, 40), 1);
            c.due("n 40 has a last", x.cell(1, 39, 0), 1);
            c.due("n 40 has no more", x.cell(1, 40, 0), -12);
            c.due("n 41", x.sheet(1, sort, 41), BAD);
            c.due("n MAX", x.sheet(1, sort, MAX), BAD);
            c.due("n -1", x.sheet(1, sort, -1), -14);
            c.due("n MIN", x.sheet(1, sort, MIN), -14);
            c.due("as it was", x.cell(1, 39, 0), 1);
        }
        for (int n : new int[] {-1, 41, MIN, MAX}) {
            c.due("missing, n " + n, x.sheet(1, -1, n), 1);
            c.due("missing", x.cell(1, 0, 0), -11);
        }
    }

    private static void cell(Check c) {
        c.promise("25 cell, bounds");
        AheadOfAFriend x = new AheadOfAFriend();
        for (int s = 0; s < 4; s++) {
            x.sheet(s, s % 3, 5);
        }
        c.ends("cell(v, 0, 1)", v -> x.cell(v, 0, 1), BAD, 0, 1, 3, 1);
        for (int n = 1; n <= 40; n += 13) {
            for (int sort = 0; sort < 3; sort++) {
                x.sheet(2, sort, n);
                c.ends("cell(2, v, 1) of " + n, v -> x.cell(2, v, 1), -12, 0, 1, n - 1, 1);
            }
        }
        for (int v : new int[] {MIN, MAX, 0, -1, 128, 32768}) {
            c.due("any number, " + v, x.cell(0, 0, v), 1);
            c.due("any number, " + v, x.cell(1, 0, v), 1);
            c.due("any number, " + v, x.cell(2, 0, v), 1);
        }
    }

    private static void copy(Check c) {
        c.promise("26 copy, bounds");
        for (int sort = 0; sort < 3; sort++) {
            AheadOfAFriend x = new AheadOfAFriend();
            for (int s = 0; s < 4; s++) {
                x.sheet(s, sort, 5 + s);
            }
            c.ends("copy(v, 0, 0, 0, 5)", v -> x.copy(v, 0, 0, 0, 5), BAD, 0, 5, 3, 5);
            c.ends("copy(0, 0, v, 0, 5)", v -> x.copy(0, 0, v, 0, 5), BAD, 0, 5, 3, 5);
            c.ends("copy(0, v, 1, 0, 2)", v -> x.copy(0, v, 1, 0, 2), -12, 0, 2, 3, 2);
            c.ends("copy(0, 0, 1, v, 2)", v -> x.copy(0, 0, 1, v, 2), -12, 0, 2, 4, 2);
            c.ends("copy(0, 0, 1, 0, v)", v -> x.copy(0, 0, 1, 0, v), -12, 0, 0, 5, 5);
            c.ends("copy(1, 0, 0, 0, v)", v -> x.copy(1, 0, 0, 0, v), -12, 0, 0, 5, 5);
            c.ends("none of them, copy(0, v, 1, 0, 0)", v -> x.copy(0, v, 1, 0, 0), -12, 0, 0, 5, 0);
            c.ends("none of them, copy(0, 0, 1, v, 0)", v -> x.copy(0, 0, 1, v, 0), -12, 0, 0, 6, 0);
        }
    }

    private static void people(Check c) {
        c.promise("27 people, bounds");
        AheadOfAFriend x = new AheadOfAFriend();
        x.image();
        for (int s = 0; s < 4; s++) {
            x.sheet(s, s % 3, 12);
        }
        c.ends("people(v, 0, 0, 0)", v -> x.people(v, 0, 0, 0), BAD, 0, 0, 3, 0);
        c.ends("people(2, v, 0, 1)", v -> x.people(2, v, 0, 1), BAD, 0, -13, 2, 1);
        c.ends("people(0, v, 0, 1)", v -> x.people(0, v, 0, 1), BAD, 0, 1, 2, -13);
        c.ends("people(0, 0, 0, v)", v -> comeAnew(x, 0, v), BAD, 0, 0, 5, 5);
        c.ends("people(0, 0, v, 1)", v -> comeAnew(x, v, 1), -12, 0, 1, 10, 1);
        c.ends("people(0, 0, v, 5)", v -> comeAnew(x, v, 5), -12, 0, 5, 2, 5);
        x.back();
        c.due("the fifth is outside", x.people(0, 0, 3, 5), -12);
        c.due("four stood ahead", x.count(0), 4);
    }

    /** People of SHEET 0 on an object of which all came since the image. */
    private static int comeAnew(AheadOfAFriend x, int from, int n) {
        x.back();
        return x.people(0, 0, from, n);
    }

    private static void taken(Check c) {
        c.promise("28 taken, bounds");
        AheadOfAFriend x = two();
        x.person(5, 7);
        c.ends("taken(2, v)", v -> x.taken(2, v), BAD, 0, 7, 5, 7);
        c.ends("taken(v, 0)", v -> x.taken(v, 0), -11, 0, 3, 2, 7);
        c.ends("taken(v, 5)", v -> x.taken(v, 5), -11, 0, -13, 2, 7);
    }
}
