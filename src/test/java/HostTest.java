/** Promises 24 to 28: sheet, cell, copy, people, taken. */
public final class HostTest {
    private static final int MAX = Integer.MAX_VALUE, MIN = Integer.MIN_VALUE;

    public static void main(String[] args) {
        Check c = new Check();
        sheet(c);
        cell(c);
        copy(c);
        copyRefuses(c);
        people(c);
        peopleRefuses(c);
        taken(c);
        c.end();
    }

    /** The NUMBER of one who comes by the item: a way to look into a SHEET. 0 .. 9, or else -1. */
    private static int item(AheadOfAFriend x, int sheet, int sort, int i) {
        // A new one may not have room: all is laid back to the image of nobody that the test took first.
        x.back();
        x.sheet(3, sort, 2);
        x.copy(sheet, i, 3, 1, 1);
        return x.people(3, sort, 0, 1) == 1 ? x.told(0, 1) : -1;
    }

    private static void sheet(Check c) {
        c.promise("24 sheet");
        AheadOfAFriend x = new AheadOfAFriend();
        x.image();
        for (int s = 0; s < 4; s++) {
            c.due("sheet", x.sheet(s, s % 3, 10 * (s + 1)), 1);
            c.due("its last item", x.cell(s, 10 * (s + 1) - 1, 5), 1);
            c.due("behind it", x.cell(s, 10 * (s + 1), 5), -12);
        }
        c.due("item", item(x, 0, 0, 9), 5);
        for (int i = 0; i < 10; i++) {
            x.cell(0, i, 7);
        }
        c.due("anew", x.sheet(0, 0, 10), 1);
        for (int i = 0; i < 10; i++) {
            c.due("all 0", item(x, 0, 0, i), 0);
        }
        c.due("of none", x.sheet(0, 2, 0), 1);
        c.due("of none", x.cell(0, 0, 0), -12);
        c.due("missing", x.sheet(0, -1, -99), 1);
        c.due("missing", x.cell(0, 0, 0), -11);
        c.due("missing", x.sheet(0, -1, 99), 1);
        x.sheet(1, 1, 7);
        int[][] due = {
            {-1, 0, 1, -2}, {4, 0, 1, -2}, {MAX, 0, 1, -2}, {1, 3, 1, -2}, {1, -2, 1, -2}, {1, 0, 41, -2}, {1, 0, MAX, -2},
            {1, 0, -1, -14}, {1, 2, MIN, -14}, {4, 0, -1, -2}, {1, 3, -1, -2}, {4, -1, 0, -2}};
        for (int[] d : due) {
            c.due("sheet(" + d[0] + ", " + d[1] + ", " + d[2] + ")", x.sheet(d[0], d[1], d[2]), d[3]);
        }
        c.due("as it was", x.cell(1, 6, 0), 1);
        c.due("as it was", x.cell(1, 7, 0), -12);
        c.due("forty", x.sheet(1, 0, 40), 1);
    }

    private static void cell(Check c) {
        c.promise("25 cell");
        AheadOfAFriend x = new AheadOfAFriend();
        x.image();
        int[][] values = {{7, 7, 7, 7}, {256 + 3, 3, -1, -1}, {65536 + 3, 3, 3, -1}, {-65536 + 4, 4, 4, -1}, {MIN, 0, 0, -1}, {128, -1, -1, -1}};
        for (int sort = 0; sort < 3; sort++) {
            x.sheet(0, sort, 3);
            for (int[] v : values) {
                c.due("cell", x.cell(0, 1, v[0]), 1);
                c.due("cell of sort " + sort + ", " + v[0], item(x, 0, sort, 1), v[1 + sort]);
                c.due("the one ahead", item(x, 0, sort, 0), 0);
                c.due("the one behind", item(x, 0, sort, 2), 0);
            }
        }
        int[][] due = {{-1, 0, -2}, {4, 0, -2}, {MIN, 0, -2}, {1, 0, -11}, {1, 99, -11}, {0, -1, -12}, {0, 3, -12}, {0, MAX, -12}, {0, MIN, -12}};
        for (int[] d : due) {
            c.due("cell(" + d[0] + ", " + d[1] + ")", x.cell(d[0], d[1], 1), d[2]);
        }
    }

    private static void copy(Check c) {
        c.promise("26 copy");
        AheadOfAFriend x = new AheadOfAFriend();
        x.image();
        x.sheet(0, 1, 6);
        x.sheet(1, 1, 4);
        for (int i = 0; i < 6; i++) {
            x.cell(0, i, i + 1);
        }
        c.due("copy", x.copy(0, 1, 1, 2, 2), 2);
        row(c, x, 1, 1, 0, 0, 2, 3);
        c.due("within, up", x.copy(0, 0, 0, 2, 4), 4);
        row(c, x, 0, 1, 1, 2, 1, 2, 3, 4);
        c.due("within, down", x.copy(0, 2, 0, 1, 4), 4);
        row(c, x, 0, 1, 1, 1, 2, 3, 4, 4);
        c.due("none, at the end", x.copy(0, 6, 1, 4, 0), 0);
        c.due("all", x.copy(0, 0, 0, 0, 6), 6);
        row(c, x, 0, 1, 1, 1, 2, 3, 4, 4);
    }

    private static void row(Check c, AheadOfAFriend x, int sheet, int sort, int... due) {
        for (int i = 0; i < due.length; i++) {
            c.due("item " + i, item(x, sheet, sort, i), due[i]);
        }
    }

    private static void copyRefuses(Check c) {
        c.promise("26 copy, refusals");
        AheadOfAFriend x = new AheadOfAFriend();
        x.sheet(0, 0, 4);
        x.sheet(1, 0, 3);
        x.sheet(2, 2, 4);
        int[][] due = {
            {-1, 0, 0, 0, 0, -2}, {0, 0, 4, 0, 0, -2}, {4, 0, 3, 0, 0, -2}, {3, 0, -1, 0, 0, -2},
            {0, 0, 3, 0, 0, -11}, {3, 0, 0, 0, 0, -11}, {3, 0, 3, 0, 0, -11}, {2, 9, 3, 0, 0, -11},
            {0, 0, 2, 0, 0, -13}, {2, 9, 0, 0, 0, -13},
            {0, 0, 1, 0, -1, -12}, {0, -1, 1, 0, 1, -12}, {0, 0, 1, -1, 1, -12}, {0, 0, 1, 0, 4, -12}, {0, 1, 1, 0, 4, -12},
            {0, 5, 1, 0, 0, -12}, {0, 0, 1, 4, 0, -12}, {0, 2, 1, 0, 3, -12}, {0, 0, 1, 2, 2, -12},
            {0, MAX, 1, 0, 1, -12}, {0, 0, 1, MAX, 1, -12}, {0, 1, 1, 1, MAX, -12}, {0, MAX, 1, MAX, MAX, -12}, {0, MIN, 1, 0, MIN, -12},
            {0, 1, 0, 0, 3, 3}};
        for (int[] d : due) {
            c.due("copy(" + d[0] + ", " + d[1] + ", " + d[2] + ", " + d[3] + ", " + d[4] + ")", x.copy(d[0], d[1], d[2], d[3], d[4]), d[5]);
        }
    }

    private static void people(Check c) {
        c.promise("27 people");
        AheadOfAFriend x = new AheadOfAFriend();
        int[] items = {9, 0, 3, 1, 4, 6, 0, 0, 10, 5, 9, -1, 2, 2, -1};
        x.sheet(0, 1, items.length);
        for (int i = 0; i < items.length; i++) {
            x.cell(0, i, items[i]);
        }
        c.due("none of them", x.people(0, 1, 0, 0), 0);
        // (0, 3) (1, 4) (6, 0) (0, 10) (5, 9): the third and fourth are left out.
        c.due("from 1 on", x.people(0, 1, 1, 5), 3);
        c.due("people", x.count(0), 3);
        int[][] due = {{0, 3}, {1, 4}, {5, 9}};
        for (int i = 0; i < 3; i++) {
            c.due("kind", x.told(i, 5), due[i][0]);
            c.due("number", x.told(i, 1), due[i][1]);
        }
        c.due("line", Check.line(x), 123);
        // (-1, 2) (2, -1): both left out, then the end.
        c.due("to the end", x.people(0, 1, 11, 2), 0);
        c.due("a place outside", x.people(0, 1, 11, 3), -12);
        c.due("half outside", x.people(0, 1, 14, 1), -12);
        c.due("people", x.count(0), 3);
        // (5, 9) (-1, 2) (2, -1), then outside.
        c.due("what stood ahead came", x.people(0, 1, 9, 4), -12);
        c.due("people", x.count(0), 4);
        c.due("one more has room, the next is left out", x.people(0, 1, 1, 2), 1);
        c.due("all are left out", x.people(0, 1, 1, 5), 0);
        c.due("left out, then outside", x.people(0, 1, 9, 4), -12);
        c.due("people", x.count(0), 5);
    }

    private static void peopleRefuses(Check c) {
        c.promise("27 people, refusals");
        AheadOfAFriend x = new AheadOfAFriend();
        x.sheet(0, 1, 4);
        int[][] due = {
            {-1, 1, 0, 1, -2}, {4, 1, 0, 1, -2}, {0, 3, 0, 1, -2}, {0, -1, 0, 1, -2}, {0, 1, 0, 6, -2}, {0, 1, 0, -1, -2},
            {1, 3, 0, 1, -2}, {1, 0, 0, 6, -2}, {0, 0, 0, 1, -13}, {0, 2, 9, 1, -13}, {0, 2, 0, 0, -13}, {1, 0, 0, 1, -11}, {1, 2, 0, 0, -11},
            {0, 1, -1, 1, -12}, {0, 1, 3, 1, -12}, {0, 1, MAX, 5, -12}, {0, 1, MIN, 5, -12}, {0, 1, MAX - 1, 5, -12}, {0, 1, 99, 0, 0}};
        for (int[] d : due) {
            c.due("people(" + d[0] + ", " + d[1] + ", " + d[2] + ", " + d[3] + ")", x.people(d[0], d[1], d[2], d[3]), d[4]);
        }
        c.due("nobody came", x.count(0), 0);
    }

    private static void taken(Check c) {
        c.promise("28 taken");
        int[] over = {0b000001, 0b000011, 0b000101, 0b001011, 0b010101, 0b100001};
        for (int kind = 0; kind < 6; kind++) {
            AheadOfAFriend x = new AheadOfAFriend();
            x.person(0, 1);
            x.person(kind, kind + 2);
            for (int k = 0; k < 6; k++) {
                c.due("a " + kind + " taken for a " + k, x.taken(1, k), (over[kind] >> k & 1) == 1 ? kind + 2 : -13);
            }
        }
        AheadOfAFriend y = new AheadOfAFriend();
        y.person(5, 8);
        y.minute();
        c.due("who left is still one of people", y.taken(0, 5), 8);
        int[][] due = {{0, -1, -2}, {0, 6, -2}, {9, 6, -2}, {1, 0, -11}, {-1, 5, -11}, {MAX, 0, -11}, {MIN, 0, -11}, {0, MIN, -2}};
        for (int[] d : due) {
            c.due("taken(" + d[0] + ", " + d[1] + ")", y.taken(d[0], d[1]), d[2]);
        }
    }
}
