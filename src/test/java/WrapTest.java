/** A wrap-around: an E, a SEED and each 1 more, the draw of what all LIKE, items of bytes and shorts; and MINUTE, which has none in thought. */
public final class WrapTest {
    private static final int MAX = Integer.MAX_VALUE, MIN = Integer.MIN_VALUE;

    /** 2147483647, of NUMBERS of four digits. */
    private static final String MOST = "9999*9999*21+4790*9999+8416";

    public static void main(String[] args) {
        Check c = new Check();
        sums(c);
        products(c);
        negatives(c);
        compares(c);
        truths(c);
        ofEachPart(c);
        seeds(c);
        draws(c);
        drawsByHand(c);
        bytes(c);
        shorts(c);
        ints(c);
        copied(c);
        minutesInThought(c);
        c.end();
    }

    /** Whether an E is worth something but 0, as lasts tells it. */
    private static void so(Check c, String e, boolean due) {
        AheadOfAFriend x = Check.citizens(0);
        c.due("TEXT with " + e, Check.textOf(x, "minds 0;lasts 10+(" + e + ");irks 0;"), 1);
        x.force(1);
        c.due(e, x.told(0, 7), due ? 11 : 10);
    }

    private static void lasts(Check c, String e, int due) {
        AheadOfAFriend x = Check.citizens(0);
        Check.textOf(x, "minds 0;lasts " + e + ";irks 0;");
        x.force(1);
        c.due("lasts " + e, x.told(0, 7), due);
    }

    private static void sums(Check c) {
        c.promise("6 text, an E wraps by + and -");
        so(c, "0<" + MOST, true);
        so(c, MOST + "+1<0", true);
        so(c, MOST + "+1=-(" + MOST + ")-1", true);
        so(c, "-(" + MOST + ")-1<0", true);
        so(c, "0<-(" + MOST + ")-2", true);
        so(c, "-(" + MOST + ")-2=" + MOST, true);
        so(c, MOST + "+" + MOST + "=-2", true);
        lasts(c, MOST + "+1", 1);
        lasts(c, MOST, 40);
        lasts(c, "-(" + MOST + ")-2", 40);
        lasts(c, MOST + "+" + MOST + "+9", 7);
    }

    private static void products(Check c) {
        c.promise("6 text, an E wraps by *");
        so(c, "256*256*256*256=0", true);
        so(c, "256*256*256*128<0", true);
        so(c, "256*256*256*127<0", false);
        so(c, "(" + MOST + ")*2=-2", true);
        so(c, "(" + MOST + ")*(" + MOST + ")=1", true);
        so(c, "256*256*256*128=-(" + MOST + ")-1", true);
        lasts(c, "256*256*256*256+7", 7);
        lasts(c, "256*256*256*128", 1);
        lasts(c, "256*256*256*128-1", 40);
        // 4299140043 less 2 to the 32nd is 4172747.
        lasts(c, "9999*9999*43-4172*1000-740", 7);
    }

    private static void negatives(Check c) {
        c.promise("6 text, an E wraps by a - ahead of a ONE");
        so(c, "-(" + MOST + "+1)=" + MOST + "+1", true);
        so(c, "-(" + MOST + "+1)<0", true);
        so(c, "(" + MOST + "+1)*-1<0", true);
        so(c, "--(" + MOST + ")=" + MOST, true);
    }

    private static void compares(Check c) {
        c.promise("6 text, < and = do not wrap");
        so(c, MOST + "+1<" + MOST, true);
        so(c, MOST + "<" + MOST + "+1", false);
        so(c, "-1<" + MOST, true);
        so(c, MOST + "<-1", false);
        so(c, "-(" + MOST + ")<2", true);
        so(c, "2<-(" + MOST + ")", false);
        so(c, MOST + "=" + MOST + "+1", false);
        so(c, "256*256*256*255+9=9", false);
    }

    private static void truths(Check c) {
        c.promise("6 text, what is not 0 is true, and no more than 1");
        so(c, "not 256*256*256*256", true);
        so(c, "not 256*256*256*128", false);
        so(c, "256*256*256*128 and -1", true);
        so(c, "256*256*256*256 or 0", false);
        so(c, "256*256*256*256 and 1", false);
        so(c, "0 or 256", true);
        so(c, "256 and 65*256", true);
    }

    private static void ofEachPart(Check c) {
        c.promise("6 text, minds, lasts and irks wrap");
        String[] e = {"256*256*256*256", "256*256*256*128", "256*256*256*128-1", "256*256*256*256+5"};
        int[][] due = {{0, 1, 0}, {1, 1, 0}, {1, 40, 99}, {1, 5, 5}};
        for (int i = 0; i < e.length; i++) {
            AheadOfAFriend x = Check.citizens(0, 0);
            Check.textOf(x, "minds " + e[i] + ";lasts " + e[i] + ";irks " + e[i] + ";");
            x.force(1);
            c.due("minds " + e[i], x.told(0, 11), due[i][0]);
            c.due("lasts " + e[i], x.told(0, 7), due[i][1]);
            c.due("irks " + e[i], x.told(0, 8), due[i][2]);
        }
    }

    /**
     * Of two CITIZENS the second can come first by those SEEDS whose first draw has bit 1. From MAX - 4 on these
     * are (worked out apart): 0 1 1 0 0, and from MIN on 0 1 1 0 0; from -3 on 1 0 0, and from 0 on 0 1 1 0 0 0 1 1 0.
     */
    private static void seeds(Check c) {
        c.promise("20 chance, a SEED and each 1 more");
        AheadOfAFriend x = Check.citizens(0, 0);
        long[][] due = {
            {MAX, 1, 0, 1}, {MAX, 2, 0, 1}, {MAX, 3, 1, 3}, {MAX, 4, 1, 2}, {MAX - 4, 10, 2, 5}, {MAX - 3, 2, 1, 1}, {MAX - 1, 10, 2, 5},
            {MIN, 1, 0, 1}, {MIN + 1, 2, 1, 1}, {-1, 1, 0, 1}, {-1, 3, 1, 3}, {-1, 10, 2, 5}, {-3, 6, 1, 2}, {0, 1, 0, 1}, {1, 1, 1, 1}};
        for (long[] d : due) {
            int seed = (int) d[0];
            int m = (int) d[1];
            c.due("above, " + seed + " " + m, x.chance(seed, m, 1, 0), d[2]);
            c.due("below, " + seed + " " + m, x.chance(seed, m, 1, 1), d[3]);
        }
    }

    /** What one LIKES by the draw of a SEED, worked out with longs. */
    private static int drawnBits(long seed, int one) {
        long z = seed & 0xffffffffL;
        for (int i = 0; i <= one; i++) {
            z = (z * 1103515245L + 12345L) & 0xffffffffL;
        }
        return (int) ((z >> 9) % 32);
    }

    /** Of five who have left only one and another one come again: ORDERS are two if the one LIKES the other by the draw. */
    private static void draws(Check c) {
        c.promise("19 drawn, z wraps");
        int[] seeds = {0, 1, 2, -1, -2, MAX, MIN, MAX - 1, MIN + 1, 12345, -99999, 1 << 30, 0x55555555, 0xaaaaaaaa};
        for (int one = 0; one < 5; one++) {
            for (int other = 0; other < 5; other++) {
                if (one == other) {
                    continue;
                }
                AheadOfAFriend x = Check.citizens(0, 0, 0, 0, 0);
                for (int i = 0; i < 5; i++) {
                    Check.send(x);
                }
                x.come(one);
                x.come(other);
                for (int seed : seeds) {
                    int bit = drawnBits(seed, one) >> other & 1;
                    c.due("SEED " + seed + ", " + one + " and " + other, x.drawn(seed), 1 + bit);
                    c.due("SEED " + seed + ", " + one + " and " + other, x.chance(seed, 1, other, 0), bit);
                }
            }
        }
    }

    /** SEED 0: z is 12345, >>> 9 is 24: bits 3 and 4. SEED -1: z is -1103502900, >>> 9 is 6233328, % 32 is 16: bit 4. */
    private static void drawsByHand(Check c) {
        c.promise("19 drawn, by hand");
        c.due("12345 >>> 9", drawnBits(0, 0), 24);
        c.due("-1103502900 >>> 9", drawnBits(-1, 0), 16);
        AheadOfAFriend x = Check.citizens(0, 0, 0, 0, 0);
        for (int i = 0; i < 5; i++) {
            Check.send(x);
        }
        x.come(0);
        x.come(3);
        c.due("by SEED 0 0 LIKES 3", x.drawn(0), 2);
        c.due("by SEED -1 it doesn't", x.drawn(-1), 1);
        x.minute();
        c.due("who is SERVED isn't passed", x.drawn(0), 1);
    }

    /** An item that was put as v: 0 .. 9 by a NUMBER, -1 by nobody who is first, 99 if it is something else. */
    private static int item(int sort, int v) {
        AheadOfAFriend x = new AheadOfAFriend();
        x.sheet(0, sort, 2);
        x.cell(0, 1, v);
        if (x.people(0, sort, 0, 1) == 1) {
            return x.told(0, 1);
        }
        x.person(5, 0);
        x.sheet(1, sort, 1);
        x.copy(0, 1, 1, 0, 1);
        return x.tells(1, 0, 0) == -1 ? -1 : 99;
    }

    private static void bytes(Check c) {
        c.promise("25 cell, the lowest 8 bits");
        int[][] due = {
            {0, 0}, {9, 9}, {10, 99}, {127, 99}, {128, 99}, {255, -1}, {256, 0}, {259, 3}, {-1, -1}, {-2, 99}, {-128, 99}, {-129, 99},
            {-247, 9}, {-253, 3}, {-256, 0}, {-257, -1}, {511, -1}, {65535, -1}, {65536, 0}, {MIN, 0}, {MIN + 4, 4}, {MAX, -1}, {0x12345607, 7}};
        for (int[] d : due) {
            c.due("a byte of " + d[0], item(0, d[0]), d[1]);
        }
    }

    private static void shorts(Check c) {
        c.promise("25 cell, the lowest 16 bits");
        int[][] due = {
            {0, 0}, {9, 9}, {10, 99}, {255, 99}, {256, 99}, {259, 99}, {32767, 99}, {32768, 99}, {65535, -1}, {65536, 0}, {65539, 3}, {-1, -1},
            {-253, 99}, {-257, 99}, {-65536, 0}, {-65527, 9}, {-65537, -1}, {131071, -1}, {MIN, 0}, {MIN + 4, 4}, {MAX, -1}, {0x12340007, 7}};
        for (int[] d : due) {
            c.due("a short of " + d[0], item(1, d[0]), d[1]);
        }
    }

    private static void ints(Check c) {
        c.promise("25 cell, ints as they are");
        int[][] due = {
            {0, 0}, {9, 9}, {10, 99}, {255, 99}, {256, 99}, {259, 99}, {65535, 99}, {65536, 99}, {65539, 99}, {-1, -1}, {-65527, 99},
            {MIN, 99}, {MIN + 4, 99}, {MAX, 99}};
        for (int[] d : due) {
            c.due("an int of " + d[0], item(2, d[0]), d[1]);
        }
    }

    /** What wrapped stays as it is when it is copied, and is taken for KIND and NUMBER as it is. */
    private static void copied(Check c) {
        c.promise("26 copy, 27 people, of what wrapped");
        for (int sort = 0; sort < 2; sort++) {
            int round = sort == 0 ? 256 : 65536;
            AheadOfAFriend x = new AheadOfAFriend();
            Check.lay(x, 0, sort, round + 3, 5 - round, round - 1, 0);
            x.sheet(1, sort, 4);
            c.due("copy", x.copy(0, 0, 1, 0, 4), 4);
            c.due("one of two", x.people(1, sort, 0, 2), 1);
            c.due("KIND", x.told(0, 5), 3);
            c.due("NUMBER", x.told(0, 1), 5);
        }
    }

    private static void minutesInThought(Check c) {
        c.promise("16 run, 17 tells, 18 film, MINUTE passes 999");
        AheadOfAFriend x = Check.citizens(0);
        x.force(Check.textOf(x, "minds 0;lasts 1+39*(minute<1020);irks 0;"));
        x.set(0, 0, 999);
        c.due("in MINUTE 1020 it LASTS 1", x.run(60, 10), 21);
        x.film(0, 30);
        c.due("as it goes", x.tells(0, 0, 0), -1);
        x.cell(0, 21, 0);
        c.due("nobody behind 22", x.tells(0, 0, 0), 21);
        x.film(0, 30);
        x.cell(0, 20, -1);
        c.due("0 behind 21", x.tells(0, 0, 0), 20);
        c.due("MINUTE", x.count(2), 999);
        x.set(0, 0, 998);
        c.due("a MINUTE later", x.run(60, 10), 22);
    }
}
