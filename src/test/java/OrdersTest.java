/** Promises 13 to 16: orders, fewest, ahead, run. */
public final class OrdersTest {
    public static void main(String[] args) {
        Check c = new Check();
        nobody(c);
        orders(c);
        allOrders(c);
        waits(c);
        best(c);
        walls(c);
        fewest(c);
        ahead(c);
        befriend(c);
        run(c);
        runRefuses(c);
        c.end();
    }

    private static void all(Check c, AheadOfAFriend x, int... due) {
        for (int what = 0; what < due.length; what++) {
            c.due("orders(" + what + ")", x.orders(what), due[what]);
        }
    }

    private static void nobody(Check c) {
        c.promise("13 orders, nobody");
        AheadOfAFriend x = new AheadOfAFriend();
        all(c, x, 1, 0, 0, 0, 0, 0, 0);
        c.due("orders(7)", x.orders(7), -2);
        c.due("orders(-1)", x.orders(-1), -2);
        c.due("orders(max)", x.orders(Integer.MAX_VALUE), -2);
        c.due("orders(min)", x.orders(Integer.MIN_VALUE), -2);
    }

    private static void orders(Check c) {
        c.promise("13 orders");
        // All of lasts 3, irks 1: WAIT is 3 + 6 in any order.
        all(c, Check.citizens(0, 0, 0), 1, 9, 123, 9, 0, 7, 0);
        // 0 lets 2 pass, 1 lets 2 pass: 123, 132, 312.
        all(c, Check.citizens(4, 4, 0), 3, 9, 123, 9, 0, 4, 0);
        all(c, Check.citizens(6, 5, 3), 6, 9, 123, 9, 0, 0, 3);
        all(c, Check.citizens(2, 1, 0), 2, 9, 123, 9, 0, 4, 1);
        // Who is served at place 0 stays there.
        AheadOfAFriend x = Check.citizens(6, 5, 3);
        x.minute();
        all(c, x, 2, 7, 123, 7, 0, 1, 3);
    }

    private static void allOrders(Check c) {
        c.promise("13 orders, all");
        AheadOfAFriend x = Check.citizens(30, 29, 27, 23, 15);
        all(c, x, 120, 30, 12345, 30, 0, 0, 10);
        c.due("the far end", x.fewest(54321), 10);
        c.due("the line is as it was", Check.line(x), 12345);
        c.due("again", x.orders(0), 120);
        x.minute();
        c.due("behind the first", x.orders(0), 24);
        // Who was served and isn't first can come first, and then isn't passed there.
        AheadOfAFriend y = Check.citizens(6, 5, 3);
        y.set(4, 2, 1);
        c.due("served, behind", y.orders(0), 6);
        c.due("from 312 on only", walk(y, 2, 2), 0);
        c.due("orders", y.orders(0), 2);
    }

    private static int walk(AheadOfAFriend x, int... who) {
        int place = -9;
        for (int one : who) {
            place = x.pass(one);
        }
        return place;
    }

    private static void waits(Check c) {
        c.promise("13 orders, WAIT");
        AheadOfAFriend x = new AheadOfAFriend();
        x.person(0, 4);
        x.person(2, 5);
        x.person(1, 1);
        // LASTS 7, 4, 6; IRKS 1, 2, 1.
        c.due("wait", x.orders(1), 7 * 2 + 11);
        x.set(4, 0, 5);
        c.due("the first is served", x.orders(1), 2 * 2 + 6);
        x.set(4, 0, 40);
        c.due("1 at least", x.orders(1), 1 * 2 + 5);
        x.set(4, 0, 0);
        x.set(4, 1, 3);
        c.due("served, not first", x.orders(1), 7 * 2 + 11);
        // In an order that can be come to, the first is who is first there: 1 has one MINUTE to go.
        AheadOfAFriend y = Check.citizens(2, 0);
        y.set(4, 1, 2);
        c.due("as it is", y.orders(1), 3);
        c.due("served, and first in the best order", y.orders(3), 1);
        c.due("the best order", y.orders(2), 21);
        x.force(Check.textOf(x, "minds 1;lasts minute;irks minute;"));
        x.set(0, 0, 10);
        // As all is now: LASTS 10, 5, 12; IRKS 10, 20, 10.
        c.due("told as all is now", x.orders(1), 10 * 20 + 15 * 10);
    }

    private static void best(Check c) {
        c.promise("13 orders, BEST");
        AheadOfAFriend x = new AheadOfAFriend();
        x.person(0, 9);
        x.person(0, 0);
        x.person(0, 5);
        x.set(2, 0, 6);
        // LASTS 12, 3, 8; both can pass 0, 2 can't pass 1.
        all(c, x, 3, 12 + 15, 231, 3 + 11, 2, 6, 0);
        // 1 lets 2 pass too: the best is the same one.
        x.set(2, 1, 4);
        all(c, x, 6, 27, 231, 14, 2, 4, 0);
        AheadOfAFriend v = new AheadOfAFriend();
        v.person(0, 1);
        v.person(0, 0);
        v.set(2, 0, 2);
        all(c, v, 2, 4, 21, 3, 1, 2, 0);
        // Of like ones that of fewest passings, not that of least digits.
        AheadOfAFriend y = Check.citizens(6, 5, 3);
        y.pass(2);
        y.pass(2);
        c.due("best is the line as it is", y.orders(2), 312);
        c.due("its passings", y.orders(4), 0);
        // LASTS 7, 5, 3; 123 waits 19, and 213 and 132, each by one passing, 17: that of least digits.
        AheadOfAFriend z = new AheadOfAFriend();
        z.person(0, 4);
        z.person(0, 2);
        z.person(0, 0);
        z.set(2, 0, 2);
        z.set(2, 1, 4);
        all(c, z, 3, 19, 132, 17, 1, 4, 0);
        // Both passings at once are best, if they can be.
        AheadOfAFriend w = Check.citizens(0, 0, 0, 0);
        w.force(Check.textOf(w, "minds not theirs - number = 1;lasts 3 + 5 * (number = 1 or number = 3);irks 1;"));
        for (int i = 0; i < 4; i++) {
            w.set(1, i, i + 1);
        }
        all(c, w, 5, 8 + 11 + 19, 2143, 3 + 11 + 14, 2, 8, 0);
    }

    private static void walls(Check c) {
        c.promise("13 orders, WALLS, RINGS");
        AheadOfAFriend x = Check.citizens(8, 0, 0, 0);
        // 0 would let 3 pass, but 3 never comes behind it.
        c.due("walls", x.orders(5), 15);
        c.due("rings", x.orders(6), 0);
        x.set(2, 1, 8);
        x.set(2, 2, 8);
        c.due("walls", x.orders(5), 8);
        x.set(2, 3, 1);
        c.due("3 lets 0 pass back", x.orders(5), 0);
        c.due("rings", x.orders(6), 1);
        for (int i = 0; i < 4; i++) {
            x.set(2, i, 0);
        }
        c.due("nobody is passed any more", x.orders(5), 15);
        AheadOfAFriend y = new AheadOfAFriend();
        y.person(5, 0);
        y.person(0, 0);
        y.person(0, 0);
        y.minute();
        c.due("who isn't in the line is none", y.orders(5), 6);
        y.set(2, 1, 5);
        y.set(2, 2, 3);
        c.due("a ring of those in the line", y.orders(6), 1);
    }

    private static void fewest(Check c) {
        c.promise("14 fewest");
        AheadOfAFriend n = new AheadOfAFriend();
        c.due("nobody", n.fewest(0), 0);
        c.due("nobody", n.fewest(1), -1);
        c.due("fewest(-1)", n.fewest(-1), -2);
        c.due("fewest(min)", n.fewest(Integer.MIN_VALUE), -2);
        AheadOfAFriend x = Check.citizens(4, 4, 0);
        int[][] due = {{123, 0}, {132, 1}, {312, 2}, {213, -1}, {321, -1}, {12, -1}, {0, -1}, {1234, -1}, {122, -1}, {Integer.MAX_VALUE, -1}};
        for (int[] d : due) {
            c.due("fewest(" + d[0] + ")", x.fewest(d[0]), d[1]);
        }
        c.due("the line is as it was", Check.line(x), 123);
        AheadOfAFriend y = Check.citizens(6, 5, 3);
        c.due("fewest(321)", y.fewest(321), 3);
        c.due("fewest(231)", y.fewest(231), 2);
    }

    private static void ahead(Check c) {
        c.promise("15 ahead");
        AheadOfAFriend x = Check.citizens(4, 4, 0);
        c.due("ahead(0, 0)", x.ahead(0, 0), 0);
        c.due("ahead(0, 1)", x.ahead(0, 1), 0);
        c.due("ahead(1, 0)", x.ahead(1, 0), 1);
        c.due("ahead(1, 1)", x.ahead(1, 1), 0);
        c.due("ahead(2, 0)", x.ahead(2, 0), 0);
        c.due("ahead(2, 1)", x.ahead(2, 1), 2);
        int[][] bad = {{3, 0}, {-1, 0}, {0, 3}, {0, -1}, {Integer.MAX_VALUE, 0}, {0, Integer.MIN_VALUE}};
        for (int[] b : bad) {
            c.due("ahead(" + b[0] + ", " + b[1] + ")", x.ahead(b[0], b[1]), -2);
        }
        AheadOfAFriend y = new AheadOfAFriend();
        y.person(5, 0);
        y.person(0, 0);
        y.minute();
        for (int what = 0; what < 3; what++) {
            c.due("not in the line", y.ahead(0, what), -1);
        }
        c.due("none such, though nobody would be", y.ahead(0, 3), -2);
        // 2 can't pass 1, but 1 can leave 0 behind, so 0 is passed by 2 behind that: places are won by others' passings too.
        AheadOfAFriend z = Check.citizens(6, 0, 0);
        c.due("ahead(2, 0)", z.ahead(2, 0), 1);
        c.due("ahead(2, 1)", z.ahead(2, 1), 2);
    }

    private static void befriend(Check c) {
        c.promise("15 ahead, BEFRIEND");
        AheadOfAFriend x = Check.citizens(4, 0, 0);
        c.due("were 1 to like 2", x.ahead(2, 2), 1);
        c.due("the likes are as they were", x.told(1, 2), 0);
        c.due("were 0 to like 1", x.ahead(1, 2), 0);
        c.due("the first needs none", x.ahead(0, 2), -1);
        AheadOfAFriend y = Check.citizens(0, 0, 0);
        c.due("0 isn't right ahead", y.ahead(2, 2), 1);
        AheadOfAFriend s = new AheadOfAFriend();
        s.person(5, 0);
        s.person(0, 0);
        c.due("a stranger is no friend", s.ahead(1, 2), -1);
        // Either of 0 and 1 wins one place for 3 (2 lets pass already): the least number.
        AheadOfAFriend z = Check.citizens(2, 1, 8, 0);
        c.due("ahead(3, 0)", z.ahead(3, 0), 2);
        c.due("of like ones the least number", z.ahead(3, 2), 0);
        // Were 0 to like 2, nothing is won; were 1 to, all.
        AheadOfAFriend w = Check.citizens(4, 0, 0);
        c.due("the one by whom it is least", w.ahead(2, 2), 1);
        // Were 1 to like 3, 3 comes to place 2 (0 2 3 1); were 2 to, to place 1 (1 3 0 2): the one by whom it is least.
        AheadOfAFriend t = Check.citizens(10, 4, 0, 0);
        c.due("ahead(3, 0)", t.ahead(3, 0), 3);
        c.due("not the first who helps", t.ahead(3, 2), 2);
        // Who would like one then, but by the text minds it more.
        AheadOfAFriend v = Check.citizens(0, 0);
        v.force(Check.textOf(v, "minds liked;lasts 1;irks 1;"));
        c.due("ahead(1, 0)", v.ahead(1, 0), 0);
        c.due("none would help", v.ahead(1, 2), -1);
        // One who left isn't in the line.
        AheadOfAFriend u = new AheadOfAFriend();
        u.person(5, 0);
        u.person(5, 0);
        u.person(0, 0);
        u.minute();
        c.due("nobody to befriend", u.ahead(2, 2), -1);
    }

    private static void run(Check c) {
        c.promise("16 run");
        AheadOfAFriend x = Check.citizens(0, 0);
        x.set(0, 0, 998);
        int[][] due = {{0, 2, 0, -1, -1}, {2, 2, 0, -1, -1}, {3, 1, 1, 2, -1}, {5, 1, 1, 2, -1}, {6, 0, -1, 2, 5}, {60, 0, -1, 2, 5}};
        for (int[] d : due) {
            c.due("run(" + d[0] + ", 0)", x.run(d[0], 0), d[1]);
            c.due("run(" + d[0] + ", 1)", x.run(d[0], 1), d[2]);
            c.due("run(" + d[0] + ", 10)", x.run(d[0], 10), d[3]);
            c.due("run(" + d[0] + ", 11)", x.run(d[0], 11), d[4]);
        }
        c.due("minute is as it was", x.count(2), 998);
        c.due("line is as it was", Check.line(x), 12);
        c.due("served is as it was", x.told(0, 4), 0);
        x.set(4, 0, 2);
        c.due("served ahead", x.run(10, 10), 0);
        x.minute();
        c.due("not in the line", x.run(10, 10), -1);
        // In thought MINUTE may pass 999.
        AheadOfAFriend y = Check.citizens(0, 0);
        y.force(Check.textOf(y, "minds 0;lasts 1 + 9 * (1000 < minute);irks 0;"));
        y.set(0, 0, 999);
        c.due("999", y.run(60, 10), 0);
        c.due("1000", y.run(60, 11), 1);
        y.force(Check.textOf(y, "minds 0;lasts 1 + 9 * (999 < minute);irks 0;"));
        c.due("999", y.run(60, 10), 0);
        c.due("1000 on", y.run(60, 11), 10);
    }

    private static void runRefuses(Check c) {
        c.promise("16 run, refusals");
        AheadOfAFriend x = Check.citizens(0, 0);
        int[][] bad = {
            {-1, 0}, {61, 0}, {0, -1}, {0, 2}, {0, 9}, {0, 12}, {0, 15}, {0, Integer.MAX_VALUE}, {0, Integer.MIN_VALUE},
            {Integer.MIN_VALUE, 1}, {Integer.MAX_VALUE, 1}};
        for (int[] b : bad) {
            c.due("run(" + b[0] + ", " + b[1] + ")", x.run(b[0], b[1]), -2);
        }
    }
}
