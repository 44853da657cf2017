/** What all tests use: due answers, a count of the wrong ones, and the exit code. */
final class Check {
    private int wrong = 0;
    private int looked = 0;
    private String promise = "";

    void promise(String name) {
        promise = name;
    }

    void due(String call, long got, long want) {
        looked++;
        if (got != want) {
            wrong++;
            System.out.println(promise + ": " + call + " answered " + got + ", due is " + want);
        }
    }

    void holds(String what, boolean so) {
        due(what, so ? 1 : 0, 1);
    }

    /** A call with one of its numbers left open. */
    interface Call {
        long of(int v);
    }

    /** What is outside is refused, right beside both ends and far out; then the least and the most are taken. */
    void ends(String call, Call f, long refusal, int least, long dueLeast, int most, long dueMost) {
        for (int v : new int[] {least - 1, most + 1, Integer.MIN_VALUE, Integer.MAX_VALUE}) {
            due(call + ", v = " + v, f.of(v), refusal);
        }
        due(call + ", v = " + least, f.of(least), dueLeast);
        due(call + ", v = " + most, f.of(most), dueMost);
    }

    void end() {
        System.out.println(looked + " answers looked at, " + wrong + " wrong");
        if (wrong != 0) {
            System.exit(1);
        }
    }

    /** Feeds a whole text; the answer of the last feed. */
    static int feedAll(AheadOfAFriend x, String s) {
        int n = 0;
        for (int i = 0; i < s.length(); i++) {
            n = x.feed(s.charAt(i));
        }
        return n;
    }

    static int textOf(AheadOfAFriend x, String s) {
        feedAll(x, s);
        return x.text();
    }

    /** CITIZENS of NUMBER 0 (LASTS 3, IRKS 1 by TEXT 0), each of whom likes whom the bits say. */
    static AheadOfAFriend citizens(int... likes) {
        AheadOfAFriend x = new AheadOfAFriend();
        for (int i = 0; i < likes.length; i++) {
            x.person(0, 0);
        }
        for (int i = 0; i < likes.length; i++) {
            x.set(2, i, likes[i]);
        }
        return x;
    }

    /** Who is first leaves in one MINUTE, which is taken back. */
    static void send(AheadOfAFriend x) {
        int minute = x.count(2);
        x.set(0, 0, 0);
        x.set(4, x.first(0), 40);
        x.minute();
        x.set(0, 0, minute);
    }

    static void lay(AheadOfAFriend x, int sheet, int sort, int... items) {
        x.sheet(sheet, sort, items.length);
        for (int i = 0; i < items.length; i++) {
            x.cell(sheet, i, items[i]);
        }
    }

    /** THE LINE as digits; 0: nobody. */
    static int line(AheadOfAFriend x) {
        int digits = 0;
        for (int p = 0; p < 5; p++) {
            int one = x.first(p);
            if (one >= 0) {
                digits = digits * 10 + one + 1;
            }
        }
        return digits;
    }

    /** All that can be told of the state without changing it, as one text: refusals must leave it as it is. */
    static String state(AheadOfAFriend x) {
        StringBuilder b = new StringBuilder();
        for (int what = 0; what <= 5; what++) {
            b.append(x.count(what)).append(' ');
        }
        b.append(line(x)).append(';');
        for (int one = 0; one < x.count(0); one++) {
            for (int what = 1; what <= 6; what++) {
                b.append(x.told(one, what)).append(' ');
            }
        }
        return b.toString();
    }
}
