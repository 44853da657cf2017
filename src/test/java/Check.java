/** What all tests use: due answers, a count of the wrong ones, and the exit code. */
final class Check {
    private int wrong = 0;
    private int looked = 0;
    private String promise = "";

    void promise(String name) {
        promise = name;
    }

    void due(String call, long got, long want) {
        looked++;
        if (got != want) {
            wrong++;
            System.out.println(promise + ": " + call + " answered " + got + ", due is " + want);
        }
    }

    void holds(String what, boolean so) {
        due(what, so ? 1 : 0, 1);
    }

    void end() {
        System.out.println(looked + " answers looked at, " + wrong + " wrong");
        if (wrong != 0) {
            System.exit(1);
        }
    }

    /** Feeds a whole text; the answer of the last feed. */
    static int feedAll(AheadOfAFriend x, String s) {
        int n = 0;
        for (int i = 0; i < s.length(); i++) {
            n = x.feed(s.charAt(i));
        }
        return n;
    }

    static int textOf(AheadOfAFriend x, String s) {
        feedAll(x, s);
        return x.text();
    }

    /** THE LINE as digits; 0: nobody. */
    static int line(AheadOfAFriend x) {
        int digits = 0;
        for (int p = 0; p < 5; p++) {
            int one = x.first(p);
            if (one >= 0) {
                digits = digits * 10 + one + 1;
            }
        }
        return digits;
    }

    /** All that can be told of the state without changing it, as one text: refusals must leave it as it is. */
    static String state(AheadOfAFriend x) {
        StringBuilder b = new StringBuilder();
        for (int what = 0; what <= 5; what++) {
            b.append(x.count(what)).append(' ');
        }
        b.append(line(x)).append(';');
        for (int one = 0; one < x.count(0); one++) {
            for (int what = 1; what <= 6; what++) {
                b.append(x.told(one, what)).append(' ');
            }
        }
        return b.toString();
    }
}
