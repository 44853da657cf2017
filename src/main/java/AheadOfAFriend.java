/**
 * A line before one counter, in which one may go ahead only of a friend.
 * What each call must do is told by the document's promises; README.md says where they stand.
 */
public final class AheadOfAFriend {
    public static final int NONE = -1, BAD = -2, STATE = -3, FULL = -4;
    public static final long NO = -4611686018427387904L;

    private static final int NOTHING = -11, OUTSIDE = -12, UNLIKE = -13, BELOW = -14;
    private static final int FAULTS = -100;

    private static final int PEOPLE = 5, KINDS = 6, NUMBERS = 10, SHEETS = 4;
    private static final int LAST_MINUTE = 999, MOST_GIFTS = 99, MOST_SERVED = 40;
    private static final int MOST_THOUGHT = 60, MOST_TOLD = 30, MOST_SEEDS = 10;

    private static final int MINUTE = 0, NUMBER = 1, LIKES = 2, GIFTS = 3, SERVED = 4;
    private static final int WHO = 10;

    private final Land land = new Land();
    private final Land kept = new Land();
    private final Land thought = new Land();
    private boolean hasImage;
    private final Reader reader = new Reader();
    private final Texts texts = new Texts();
    private final Manners manners = new Manners(texts);
    private final Search search = new Search(manners);
    private final Sheet[] sheets = new Sheet[SHEETS];

    public AheadOfAFriend() {
        reader.lay("minds not liked ; lasts 3 + number ; irks 1 ;");
        reader.readText(texts.spare());
        texts.takeSpare();
        for (int i = 0; i < SHEETS; i++) {
            sheets[i] = new Sheet();
        }
    }

    // ---- people

    public int set(int what, int of, int v) {
        if (what == MINUTE) {
            return changeMinute(v);
        }
        int[] row = land.rowOf(what);
        if (row == null || !land.has(of) || !canBe(what, of, v)) {
            return BAD;
        }
        int was = row[of];
        row[of] = v;
        return was;
    }

    private int changeMinute(int v) {
        if (v < 0 || v > LAST_MINUTE) {
            return BAD;
        }
        int was = land.minute;
        land.minute = v;
        return was;
    }

    private static boolean canBe(int what, int of, int v) {
        switch (what) {
            case NUMBER:
                return v >= 0 && v < NUMBERS;
            case LIKES:
                return v >= 0 && v < 1 << PEOPLE && (v >> of & 1) == 0;
            case GIFTS:
                return v >= 0 && v <= MOST_GIFTS;
            default:
                return v >= 0 && v <= MOST_SERVED;
        }
    }

    public int person(int kind, int number) {
        if (kind < 0 || kind >= KINDS || number < 0 || number >= NUMBERS) {
            return BAD;
        }
        return land.bear(kind, number);
    }

    public int told(int of, int what) {
        if (what == MINUTE) {
            return land.minute;
        }
        if (!land.has(of)) {
            return BAD;
        }
        if (what >= WHO && what < WHO + PEOPLE) {
            return manners.minds(land, of, what - WHO) ? 1 : 0;
        }
        switch (what) {
            case 5:
                return land.of(land.kind, of);
            case 6:
                return land.placeOf(of);
            case 7:
                return manners.lasts(land, of);
            case 8:
                return manners.irks(land, of);
            case 9:
                return land.likersOf(of);
            default:
                int[] row = land.rowOf(what);
                return row == null ? BAD : land.of(row, of);
        }
    }

    // ---- texts

    public int feed(int letter) {
        if (letter < 0 || letter > 255) {
            return BAD;
        }
        return reader.put(letter) ? reader.size : FULL;
    }

    public int text() {
        if (texts.isFull()) {
            return FULL;
        }
        int fault = reader.readText(texts.spare());
        return fault == NONE ? texts.takeSpare() : FAULTS - fault;
    }

    public int force(int text) {
        if (!texts.has(text)) {
            return BAD;
        }
        int was = land.rule;
        land.rule = text;
        return was;
    }

    // ---- the line

    public int first(int on) {
        return on < 0 || on >= PEOPLE ? BAD : land.at(on);
    }

    public int pass(int one) {
        if (!land.has(one)) {
            return BAD;
        }
        int place = land.placeOf(one);
        if (!manners.canPass(land, place)) {
            return STATE;
        }
        land.moveUp(place);
        return place - 1;
    }

    public int haste() {
        return manners.hasten(land);
    }

    public int minute() {
        return land.minute >= LAST_MINUTE ? STATE : manners.goOn(land);
    }

    public int come(int one) {
        if (!land.has(one)) {
            return BAD;
        }
        if (land.placeOf(one) != NONE) {
            return STATE;
        }
        land.served[one] = 0;
        return land.join(one);
    }

    // ---- orders

    public int orders(int what) {
        if (what < 0 || what > 6) {
            return BAD;
        }
        search.find(land);
        switch (what) {
            case 0:
                return search.found;
            case 1:
                return search.waitAt(0);
            case 2:
                return search.digitsAt(search.best());
            case 3:
                return search.waitAt(search.best());
            case 4:
                return search.passingsAt(search.best());
            case 5:
                return search.walls();
            default:
                return search.rings();
        }
    }

    public int fewest(int digits) {
        if (digits < 0) {
            return BAD;
        }
        search.find(land);
        return search.passingsTo(digits);
    }

    public int ahead(int one, int what) {
        if (!land.has(one) || what < 0 || what > 2) {
            return BAD;
        }
        if (land.placeOf(one) == NONE) {
            return NONE;
        }
        search.find(land);
        int least = search.leastPlace(one);
        if (what == 0) {
            return least;
        }
        return what == 1 ? search.nearest(one, least) : whomToBefriend(one, least);
    }

    private int whomToBefriend(int one, int now) {
        int least = now;
        int friend = NONE;
        for (int other = 0; other < PEOPLE; other++) {
            if (other == one || land.placeOf(other) == NONE) {
                continue;
            }
            thought.become(land);
            thought.likes[other] |= 1 << one;
            search.find(thought);
            int place = search.leastPlace(one);
            if (place < least) {
                least = place;
                friend = other;
            }
        }
        return friend;
    }

    public int run(int n, int what) {
        if (n < 0 || n > MOST_THOUGHT || what != 0 && what != 1 && !land.has(what - WHO)) {
            return BAD;
        }
        thought.become(land);
        int left = NONE;
        for (int i = 0; i < n; i++) {
            if (manners.goOn(thought) == what - WHO) {
                left = i;
            }
        }
        if (what == 0) {
            return thought.length;
        }
        return what == 1 ? thought.at(0) : left;
    }

    // ---- lines that were told

    public int tells(int sheet, int one, int what) {
        Sheet told = sheetOf(sheet);
        if (told == null || !land.has(one) || what < 0 || what > 5) {
            return BAD;
        }
        if (told.isMissing()) {
            return NOTHING;
        }
        if (told.size > MOST_TOLD) {
            return BAD;
        }
        if (what == 0) {
            thought.become(land);
            return firstOtherwise(told);
        }
        long fitting = fitting(told, one, what);
        if (what == 3) {
            return Long.bitCount(fitting);
        }
        if (what == 4) {
            return fitting == 0 ? NONE : Long.numberOfTrailingZeros(fitting);
        }
        return (int) fitting;
    }

    /** Bits of what one's KIND, NUMBER, SERVED or THE RULE might be, so that all would be as a SHEET tells. */
    private long fitting(Sheet told, int one, int what) {
        long bits = 0;
        for (int v = 0; v < howMany(what); v++) {
            thought.become(land);
            if (what == 5) {
                thought.rule = v;
            } else if (thought.has(one)) {
                int[] row = what == 1 ? thought.kind : what == 2 ? thought.number : thought.served;
                row[one] = v;
            }
            if (firstOtherwise(told) == NONE) {
                bits |= 1L << v;
            }
        }
        return bits;
    }

    private int howMany(int what) {
        switch (what) {
            case 1:
                return KINDS;
            case 2:
                return NUMBERS;
            case 5:
                return texts.size;
            default:
                return MOST_SERVED + 1;
        }
    }

    private int firstOtherwise(Sheet told) {
        for (int i = 0; i < told.size; i++) {
            manners.goOn(thought);
            if (told.item(i) != thought.at(0)) {
                return i;
            }
        }
        return NONE;
    }

    public int film(int sheet, int n) {
        Sheet told = sheetOf(sheet);
        if (told == null || n < 0 || n > MOST_TOLD) {
            return BAD;
        }
        thought.become(land);
        told.lay(Sheet.BYTES, n);
        for (int i = 0; i < n; i++) {
            manners.goOn(thought);
            told.put(i, thought.at(0));
        }
        return n;
    }

    public int drawn(int seed) {
        thought.become(land);
        thought.drawLikes(seed);
        search.find(thought);
        return search.found;
    }

    public long chance(int seed, int m, int one, int part) {
        if (m < 1 || m > MOST_SEEDS || !land.has(one) || part < 0 || part > 1) {
            return NO;
        }
        int good = 0;
        for (int i = 0; i < m; i++) {
            thought.become(land);
            thought.drawLikes(seed + i);
            search.find(thought);
            if (search.leastPlace(one) == 0) {
                good++;
            }
        }
        int common = commonPart(good, m);
        int asked = part == 0 ? good : m;
        return common < 1 ? asked : asked / common;
    }

    private static int commonPart(int a, int b) {
        for (int d = b; d > 1; d--) {
            if (a % d == 0 && b % d == 0) {
                return d;
            }
        }
        return 1;
    }

    public int image() {
        kept.become(land);
        hasImage = true;
        return land.size;
    }

    public int back() {
        if (!hasImage) {
            return STATE;
        }
        land.become(kept);
        return land.size;
    }

    public int count(int what) {
        switch (what) {
            case 0:
                return land.size;
            case 1:
                return land.length;
            case 2:
                return land.minute;
            case 3:
                return texts.size;
            case 4:
                return reader.size;
            case 5:
                return land.rule;
            default:
                return BAD;
        }
    }

    // ---- the host

    private Sheet sheetOf(int sheet) {
        return sheet < 0 || sheet >= SHEETS ? null : sheets[sheet];
    }

    public int sheet(int sheet, int sort, int n) {
        Sheet laid = sheetOf(sheet);
        if (laid == null || sort != Sheet.MISSING && !Sheet.isSort(sort)) {
            return BAD;
        }
        if (sort == Sheet.MISSING) {
            laid.lay(sort, 0);
            return 1;
        }
        if (n > Sheet.LONGEST) {
            return BAD;
        }
        if (n < 0) {
            return BELOW;
        }
        laid.lay(sort, n);
        return 1;
    }

    public int cell(int sheet, int i, int v) {
        Sheet changed = sheetOf(sheet);
        if (changed == null) {
            return BAD;
        }
        if (changed.isMissing()) {
            return NOTHING;
        }
        if (i < 0 || i >= changed.size) {
            return OUTSIDE;
        }
        changed.put(i, v);
        return 1;
    }

    public int copy(int sheet, int i, int other, int j, int n) {
        Sheet from = sheetOf(sheet);
        Sheet to = sheetOf(other);
        if (from == null || to == null) {
            return BAD;
        }
        if (from.isMissing() || to.isMissing()) {
            return NOTHING;
        }
        if (from.sort != to.sort) {
            return UNLIKE;
        }
        if (!from.hasItems(i, n) || !to.hasItems(j, n)) {
            return OUTSIDE;
        }
        from.carry(i, to, j, n);
        return n;
    }

    public int people(int sheet, int sort, int from, int n) {
        Sheet told = sheetOf(sheet);
        if (told == null || !Sheet.isSort(sort) || n < 0 || n > PEOPLE) {
            return BAD;
        }
        // A missing SHEET can be taken for one of any sort; only then it is nothing.
        if (told.isMissing()) {
            return NOTHING;
        }
        if (told.sort != sort) {
            return UNLIKE;
        }
        int came = 0;
        for (int k = 0; k < n; k++) {
            int i = from + 2 * k;
            if (!told.hasItems(i, 2)) {
                return OUTSIDE;
            }
            if (person(told.item(i), told.item(i + 1)) >= 0) {
                came++;
            }
        }
        return came;
    }

    public int taken(int one, int k) {
        if (k < 0 || k >= KINDS) {
            return BAD;
        }
        if (!land.has(one)) {
            return NOTHING;
        }
        return Manners.isUnder(land.of(land.kind, one), k) ? land.of(land.number, one) : UNLIKE;
    }

    /** PEOPLE and THE LINE: the true ones, those of THE IMAGE, and some to think with. */
    static final class Land {
        int minute;
        int rule;
        int size;
        int length;
        final int[] kind = new int[PEOPLE];
        final int[] number = new int[PEOPLE];
        final int[] likes = new int[PEOPLE];
        final int[] gifts = new int[PEOPLE];
        final int[] served = new int[PEOPLE];
        final int[] line = new int[PEOPLE];

        boolean has(int one) {
            return one >= 0 && one < size && one < PEOPLE;
        }

        int of(int[] row, int one) {
            return row != null && one >= 0 && one < size && one < row.length ? row[one] : 0;
        }

        int[] rowOf(int what) {
            switch (what) {
                case NUMBER:
                    return number;
                case LIKES:
                    return likes;
                case GIFTS:
                    return gifts;
                case SERVED:
                    return served;
                default:
                    return null;
            }
        }

        void become(Land other) {
            minute = other.minute;
            rule = other.rule;
            size = other.size;
            length = other.length;
            for (int i = 0; i < PEOPLE; i++) {
                kind[i] = other.kind[i];
                number[i] = other.number[i];
                likes[i] = other.likes[i];
                gifts[i] = other.gifts[i];
                served[i] = other.served[i];
                line[i] = other.line[i];
            }
        }

        int bear(int itsKind, int itsNumber) {
            if (size < 0 || size >= PEOPLE) {
                return FULL;
            }
            int one = size;
            kind[one] = itsKind;
            number[one] = itsNumber;
            likes[one] = 0;
            gifts[one] = 0;
            served[one] = 0;
            size++;
            join(one);
            return one;
        }

        int join(int one) {
            if (length < 0 || length >= PEOPLE) {
                return NONE;
            }
            line[length] = one;
            length++;
            return length - 1;
        }

        void dropFirst() {
            if (length <= 0) {
                return;
            }
            for (int p = 1; p < length && p < PEOPLE; p++) {
                line[p - 1] = line[p];
            }
            length--;
        }

        void moveUp(int place) {
            if (place < 1 || place >= length || place >= PEOPLE) {
                return;
            }
            int one = line[place];
            line[place] = line[place - 1];
            line[place - 1] = one;
        }

        int at(int place) {
            return place >= 0 && place < length && place < PEOPLE ? line[place] : NONE;
        }

        /** Whether one would be SERVED at a place, so that nobody changes places with that one. */
        boolean isHeld(int place, int one) {
            return place == 0 && of(served, one) > 0;
        }

        int placeOf(int one) {
            for (int p = 0; p < length && p < PEOPLE; p++) {
                if (line[p] == one) {
                    return p;
                }
            }
            return NONE;
        }

        /** 1, if one LIKES another one, else 0. */
        int likes(int one, int other) {
            return one >= 0 && one < size && one < PEOPLE ? likes[one] >> other & 1 : 0;
        }

        int likersOf(int one) {
            int many = 0;
            for (int other = 0; other < size && other < PEOPLE; other++) {
                many += likes[other] >> one & 1;
            }
            return many;
        }

        void drawLikes(int seed) {
            int z = seed;
            for (int one = 0; one < size && one < PEOPLE; one++) {
                z = z * 1103515245 + 12345;
                int others = (1 << size) - 1 & ~(1 << one);
                likes[one] = (z >>> 9) % 32 & others;
            }
        }
    }

    /** What people of each KIND mind, need and suffer, and how a line goes by that. */
    static final class Manners {
        static final int CITIZEN = 0, WIDOW = 1, CLERK = 2, BRIDE = 3, HATED = 4, STRANGER = 5;
        private static final int[] OVER = {NONE, CITIZEN, CITIZEN, WIDOW, CLERK, CITIZEN};
        private static final int MOST_LASTS = 40, MOST_IRKS = 99;

        private final Texts texts;

        Manners(Texts texts) {
            this.texts = texts;
        }

        static boolean isUnder(int kind, int k) {
            int now = kind;
            for (int i = 0; i < KINDS && now >= 0 && now < OVER.length; i++) {
                if (now == k) {
                    return true;
                }
                now = OVER[now];
            }
            return false;
        }

        boolean minds(Land land, int one, int other) {
            if (!land.has(one) || !land.has(other) || one == other) {
                return true;
            }
            boolean yes = texts.ruleOf(land).worth(Text.MINDS, land, one, other) != 0;
            boolean noGifts = land.of(land.gifts, other) == 0;
            switch (land.of(land.kind, one)) {
                case WIDOW:
                    return yes && land.likes(one, other) == 0;
                case CLERK:
                    return yes || noGifts;
                case BRIDE:
                    return false;
                case HATED:
                    return yes || noGifts || land.of(land.number, other) < land.of(land.number, one);
                case STRANGER:
                    return true;
                default:
                    return yes;
            }
        }

        int lasts(Land land, int one) {
            int v = within(0, MOST_LASTS, texts.ruleOf(land).worth(Text.LASTS, land, one, NONE));
            return within(1, MOST_LASTS, lastsOfKind(land.of(land.kind, one), v, land.of(land.number, one)));
        }

        private static int lastsOfKind(int kind, int v, int number) {
            switch (kind) {
                case WIDOW:
                case BRIDE:
                    return v + 2;
                case CLERK:
                    return v / 2;
                case HATED:
                    return v / 2 + number;
                case STRANGER:
                    return 1;
                default:
                    return v;
            }
        }

        int irks(Land land, int one) {
            int v = within(0, MOST_IRKS, texts.ruleOf(land).worth(Text.IRKS, land, one, NONE));
            return within(0, MOST_IRKS, irksOfKind(land.of(land.kind, one), v, land.of(land.number, one)));
        }

        private static int irksOfKind(int kind, int v, int number) {
            switch (kind) {
                case CLERK:
                case HATED:
                    return 2 * v;
                case BRIDE:
                    return v + number;
                case STRANGER:
                    return 0;
                default:
                    return v;
            }
        }

        private static int within(int least, int most, int v) {
            return v < least ? least : v > most ? most : v;
        }

        boolean canPass(Land land, int place) {
            if (place < 1 || place >= land.length) {
                return false;
            }
            int before = land.at(place - 1);
            return !land.isHeld(place - 1, before) && !minds(land, before, land.at(place));
        }

        int hasten(Land land) {
            int passed = 0;
            for (int place = 1; place < PEOPLE; place++) {
                if (canPass(land, place)) {
                    land.moveUp(place);
                    passed++;
                }
            }
            return passed;
        }

        /** A MINUTE of a land, of which the answer is who leaves. */
        int goOn(Land land) {
            int one = land.at(0);
            int leaves = NONE;
            if (land.has(one)) {
                int lasts = lasts(land, one);
                land.served[one]++;
                if (land.served[one] >= lasts) {
                    land.dropFirst();
                    leaves = one;
                }
            }
            land.minute++;
            return leaves;
        }
    }

    /** The TEXTS that were taken, each in a row that was made ahead. */
    static final class Texts {
        private static final int MOST = 6;

        private final Text[] texts = new Text[MOST];
        int size;

        Texts() {
            for (int i = 0; i < MOST; i++) {
                texts[i] = new Text();
            }
        }

        boolean has(int i) {
            return i >= 0 && i < size && i < MOST;
        }

        boolean isFull() {
            return size >= MOST;
        }

        /** The row that the next TEXT is read into; of no use where all are taken. */
        Text spare() {
            return texts[size < 0 || size >= MOST ? 0 : size];
        }

        int takeSpare() {
            if (!isFull()) {
                size++;
            }
            return size - 1;
        }

        Text ruleOf(Land land) {
            return texts[has(land.rule) ? land.rule : 0];
        }
    }

    /** A TEXT as it is worked out: numbers, names and signs, each sign behind what it is of. */
    static final class Text {
        static final int PARTS = 3, MINDS = 0, LASTS = 1, IRKS = 2;
        static final int LIKED = -1, OWN_NUMBER = -2, THEIRS = -3, NOW = -4, OF_GIFTS = -5, ERRAND = -6;
        static final int OR = -7, AND = -8, NOT = -9, LESS = -10, SAME = -11;
        static final int PLUS = -12, MINUS = -13, TIMES = -14, NEGATE = -15;

        private final int[] code = new int[Reader.TAPE];
        private final int[] ends = new int[PARTS];
        private int used;
        private final int[] stack = new int[Reader.TAPE];
        private int top;

        void clear() {
            used = 0;
        }

        void write(int step) {
            if (used >= 0 && used < code.length) {
                code[used] = step;
                used++;
            }
        }

        void endPart(int part) {
            if (part >= 0 && part < PARTS) {
                ends[part] = used;
            }
        }

        int worth(int part, Land land, int one, int other) {
            if (part < 0 || part >= PARTS) {
                return 0;
            }
            top = 0;
            int from = part == 0 ? 0 : ends[part - 1];
            for (int i = Math.max(from, 0); i < ends[part] && i < code.length; i++) {
                int step = code[i];
                if (step >= 0) {
                    push(step);
                } else if (step >= ERRAND) {
                    push(nameWorth(step, part == MINDS, land, one, other));
                } else {
                    work(step);
                }
            }
            return pull();
        }

        private void push(int v) {
            if (top >= 0 && top < stack.length) {
                stack[top] = v;
                top++;
            }
        }

        private int pull() {
            if (top <= 0 || top > stack.length) {
                return 0;
            }
            top--;
            return stack[top];
        }

        private void work(int sign) {
            int right = pull();
            if (sign == NOT) {
                push(right == 0 ? 1 : 0);
            } else if (sign == NEGATE) {
                push(-right);
            } else {
                push(joined(sign, pull(), right));
            }
        }

        private static int joined(int sign, int left, int right) {
            switch (sign) {
                case OR:
                    return left != 0 || right != 0 ? 1 : 0;
                case AND:
                    return left != 0 && right != 0 ? 1 : 0;
                case LESS:
                    return left < right ? 1 : 0;
                case SAME:
                    return left == right ? 1 : 0;
                case PLUS:
                    return left + right;
                case MINUS:
                    return left - right;
                default:
                    return left * right;
            }
        }

        private static int nameWorth(int name, boolean ofMinds, Land land, int one, int other) {
            switch (name) {
                case LIKED:
                    return ofMinds ? land.likes(one, other) : land.likersOf(one);
                case OWN_NUMBER:
                    return land.of(land.number, one);
                case THEIRS:
                    return ofMinds ? land.of(land.number, other) : 0;
                case NOW:
                    return land.minute;
                case OF_GIFTS:
                    return land.of(land.gifts, ofMinds ? other : one);
                default:
                    return land.of(land.served, one);
            }
        }
    }

    /** THE TAPE, and how a TEXT is read from it, token by token. */
    static final class Reader {
        static final int TAPE = 160;
        private static final int MOST_OPEN = 5, MOST_DIGITS = 4;
        // A sign's token is its byte; these stand where no sign's byte is.
        private static final int END = 0, WRONG = 1, NUMERAL = 2;
        private static final int WORD = 256, WORDS = 12;
        private static final int KEY_OR = WORD + 3, KEY_AND = WORD + 4, KEY_NOT = WORD + 5;
        private static final int FIRST_NAME = WORD + 6;

        private final int[] tape = new int[TAPE];
        int size;
        private Text into;
        private int at;
        private int next;
        private int token;
        private int numeral;
        private int open;
        private int fault;

        boolean put(int letter) {
            if (size < 0 || size >= TAPE) {
                return false;
            }
            tape[size] = letter;
            size++;
            return true;
        }

        void lay(String words) {
            for (int i = 0; i < words.length(); i++) {
                put(words.charAt(i));
            }
        }

        /** Reads THE TAPE, which is empty then: the place of its FAULT, or NONE. */
        int readText(Text text) {
            into = text;
            into.clear();
            next = 0;
            open = 0;
            fault = NONE;
            step();
            for (int part = 0; part < Text.PARTS; part++) {
                want(WORD + part);
                readOr();
                want(';');
                into.endPart(part);
            }
            want(END);
            size = 0;
            return fault;
        }

        // From the first fault on the token is WRONG, which nothing takes, so all that is open ends.
        private void fail() {
            if (fault == NONE) {
                fault = at;
            }
            token = WRONG;
        }

        private void want(int what) {
            if (token == what) {
                step();
            } else {
                fail();
            }
        }

        private boolean opens() {
            if (open >= MOST_OPEN) {
                fail();
                return false;
            }
            open++;
            return true;
        }

        private void readOr() {
            readAnd();
            for (int i = 0; i < TAPE && token == KEY_OR; i++) {
                step();
                readAnd();
                into.write(Text.OR);
            }
        }

        private void readAnd() {
            readNot();
            for (int i = 0; i < TAPE && token == KEY_AND; i++) {
                step();
                readNot();
                into.write(Text.AND);
            }
        }

        private void readNot() {
            if (token != KEY_NOT) {
                readCompared();
            } else if (opens()) {
                step();
                readNot();
                open--;
                into.write(Text.NOT);
            }
        }

        private void readCompared() {
            readSum();
            if (token == '<' || token == '=') {
                int sign = token == '<' ? Text.LESS : Text.SAME;
                step();
                readSum();
                into.write(sign);
            }
        }

        private void readSum() {
            readTerm();
            for (int i = 0; i < TAPE && (token == '+' || token == '-'); i++) {
                int sign = token == '+' ? Text.PLUS : Text.MINUS;
                step();
                readTerm();
                into.write(sign);
            }
        }

        private void readTerm() {
            readOne();
            for (int i = 0; i < TAPE && token == '*'; i++) {
                step();
                readOne();
                into.write(Text.TIMES);
            }
        }

        private void readOne() {
            if (token == NUMERAL) {
                into.write(numeral);
                step();
            } else if (token >= FIRST_NAME && token < WORD + WORDS) {
                into.write(Text.LIKED - (token - FIRST_NAME));
                step();
            } else if (token == '-' && opens()) {
                step();
                readOne();
                open--;
                into.write(Text.NEGATE);
            } else if (token == '(' && opens()) {
                step();
                readOr();
                open--;
                want(')');
            } else {
                fail();
            }
        }

        private void step() {
            for (int i = 0; i < TAPE && isBlank(letterAt(next)); i++) {
                next++;
            }
            at = next;
            int letter = letterAt(at);
            if (letter == NONE) {
                token = END;
            } else if (isLetter(letter)) {
                takeWord();
            } else if (isDigit(letter)) {
                takeNumeral();
            } else {
                next++;
                token = isSign(letter) ? letter : WRONG;
            }
        }

        private void takeWord() {
            for (int i = 0; i < TAPE && isLetter(letterAt(next)); i++) {
                next++;
            }
            token = WRONG;
            for (int k = 0; k < WORDS; k++) {
                if (isWord(wordOf(k))) {
                    token = WORD + k;
                }
            }
        }

        private boolean isWord(String word) {
            if (word.length() != next - at) {
                return false;
            }
            for (int i = 0; i < word.length() && at + i < TAPE; i++) {
                if (tape[at + i] != word.charAt(i)) {
                    return false;
                }
            }
            return true;
        }

        private void takeNumeral() {
            numeral = 0;
            for (int i = 0; i < TAPE && isDigit(letterAt(next)); i++) {
                numeral = numeral * 10 + letterAt(next) - '0';
                next++;
            }
            token = next - at > MOST_DIGITS ? WRONG : NUMERAL;
        }

        private int letterAt(int i) {
            return i >= 0 && i < size && i < TAPE ? tape[i] : NONE;
        }

        private static boolean isBlank(int letter) {
            return letter == 32 || letter == 10;
        }

        private static boolean isLetter(int letter) {
            return letter >= 'a' && letter <= 'z';
        }

        private static boolean isDigit(int letter) {
            return letter >= '0' && letter <= '9';
        }

        private static boolean isSign(int letter) {
            return "();+-*<=".indexOf((char) letter) >= 0;
        }

        // The keys of the parts first, in their order, then the other keys; the names last, as Text has them.
        private static String wordOf(int k) {
            switch (k) {
                case 0:
                    return "minds";
                case 1:
                    return "lasts";
                case 2:
                    return "irks";
                case 3:
                    return "or";
                case 4:
                    return "and";
                case 5:
                    return "not";
                case 6:
                    return "liked";
                case 7:
                    return "number";
                case 8:
                    return "theirs";
                case 9:
                    return "minute";
                case 10:
                    return "gifts";
                default:
                    return "errand";
            }
        }
    }

    /** ORDERS of a land, found nearest first. An order is kept as a number of five, place 0 the highest. */
    static final class Search {
        private static final int ORDERS = 120, CODES = 3125;

        private final Manners manners;
        private final int[] orders = new int[ORDERS];
        private final int[] passings = new int[ORDERS];
        int found;
        // In which search a code was found last: so no search has to clear the row.
        private final int[] foundIn = new int[CODES];
        private int searches;
        private final int[] now = new int[PEOPLE];
        private final boolean[] minding = new boolean[PEOPLE * PEOPLE];
        private final int[] lasting = new int[PEOPLE];
        private final int[] irking = new int[PEOPLE];
        private Land land;
        private int length;
        private int passed;

        Search(Manners manners) {
            this.manners = manners;
        }

        void find(Land where) {
            land = where;
            length = Math.max(0, Math.min(where.length, PEOPLE));
            found = 0;
            passed = 0;
            searches++;
            learn();
            for (int p = 0; p < length; p++) {
                now[p] = where.at(p);
            }
            keep(0);
            for (int i = 0; i < found && i < ORDERS; i++) {
                spread(i);
            }
        }

        private void learn() {
            for (int p = 0; p < length; p++) {
                int one = land.at(p);
                if (!land.has(one)) {
                    continue;
                }
                lasting[one] = manners.lasts(land, one);
                irking[one] = manners.irks(land, one);
                for (int q = 0; q < length; q++) {
                    int other = land.at(q);
                    if (land.has(other)) {
                        minding[one * PEOPLE + other] = manners.minds(land, one, other);
                    }
                }
            }
        }

        private boolean minds(int one, int other) {
            return !land.has(one) || !land.has(other) || minding[one * PEOPLE + other];
        }

        private void keep(int after) {
            int code = 0;
            for (int p = 0; p < length; p++) {
                code = code * PEOPLE + now[p];
            }
            if (code < 0 || code >= CODES || foundIn[code] == searches || found < 0 || found >= ORDERS) {
                return;
            }
            foundIn[code] = searches;
            orders[found] = code;
            passings[found] = after;
            found++;
        }

        private void spread(int i) {
            lay(i);
            for (int p = 1; p < length; p++) {
                int before = now[p - 1];
                int one = now[p];
                if (land.isHeld(p - 1, before) || minds(before, one)) {
                    continue;
                }
                passed |= 1 << before;
                now[p - 1] = one;
                now[p] = before;
                keep(passingsAt(i) + 1);
                now[p - 1] = before;
                now[p] = one;
            }
        }

        private void lay(int i) {
            int code = i >= 0 && i < found && i < ORDERS ? orders[i] : 0;
            for (int p = length - 1; p >= 0; p--) {
                now[p] = code % PEOPLE;
                code /= PEOPLE;
            }
        }

        int passingsAt(int i) {
            return i >= 0 && i < found && i < ORDERS ? passings[i] : NONE;
        }

        int digitsAt(int i) {
            lay(i);
            int digits = 0;
            for (int p = 0; p < length; p++) {
                digits = digits * 10 + now[p] + 1;
            }
            return digits;
        }

        int waitAt(int i) {
            lay(i);
            int till = 0;
            int wait = 0;
            for (int p = 0; p < length; p++) {
                int one = now[p];
                if (!land.has(one)) {
                    continue;
                }
                wait += till * irking[one];
                till += p == 0 ? Math.max(1, lasting[one] - land.of(land.served, one)) : lasting[one];
            }
            return wait;
        }

        int best() {
            int best = 0;
            int least = waitAt(0);
            for (int i = 1; i < found && i < ORDERS; i++) {
                int wait = waitAt(i);
                boolean nearer = passings[i] == passings[best] && orders[i] < orders[best];
                if (wait < least || wait == least && nearer) {
                    best = i;
                    least = wait;
                }
            }
            return best;
        }

        int passingsTo(int digits) {
            for (int i = 0; i < found; i++) {
                if (digitsAt(i) == digits) {
                    return passingsAt(i);
                }
            }
            return NONE;
        }

        private int placeAt(int i, int one) {
            lay(i);
            for (int p = 0; p < length; p++) {
                if (now[p] == one) {
                    return p;
                }
            }
            return PEOPLE;
        }

        int leastPlace(int one) {
            int least = PEOPLE;
            for (int i = 0; i < found; i++) {
                least = Math.min(least, placeAt(i, one));
            }
            return least;
        }

        int nearest(int one, int place) {
            for (int i = 0; i < found; i++) {
                if (placeAt(i, one) == place) {
                    return passingsAt(i);
                }
            }
            return NONE;
        }

        int walls() {
            int bits = 0;
            for (int p = 0; p < length; p++) {
                int one = land.at(p);
                if (land.has(one)) {
                    bits |= 1 << one;
                }
            }
            return bits & ~passed;
        }

        int rings() {
            int many = 0;
            for (int p = 0; p < length; p++) {
                for (int q = p + 1; q < length; q++) {
                    if (!minds(land.at(p), land.at(q)) && !minds(land.at(q), land.at(p))) {
                        many++;
                    }
                }
            }
            return many;
        }
    }

    /** A row of numbers, each kept as its sort makes it, or missing. */
    static final class Sheet {
        static final int MISSING = -1, BYTES = 0, SHORTS = 1, INTS = 2;
        static final int LONGEST = 40;

        private final int[] row = new int[LONGEST];
        int sort = MISSING;
        int size;

        static boolean isSort(int sort) {
            return sort >= BYTES && sort <= INTS;
        }

        boolean isMissing() {
            return sort == MISSING;
        }

        boolean hasItems(int i, int n) {
            return i >= 0 && n >= 0 && i <= size && n <= size - i;
        }

        void lay(int newSort, int n) {
            sort = newSort;
            size = Math.max(0, Math.min(n, LONGEST));
            for (int i = 0; i < LONGEST; i++) {
                row[i] = 0;
            }
        }

        int item(int i) {
            return i >= 0 && i < size && i < LONGEST ? row[i] : 0;
        }

        void put(int i, int v) {
            if (i >= 0 && i < size && i < LONGEST) {
                row[i] = sort == BYTES ? (byte) v : sort == SHORTS ? (short) v : v;
            }
        }

        void carry(int i, Sheet other, int j, int n) {
            if (hasItems(i, n) && other.hasItems(j, n)) {
                System.arraycopy(row, i, other.row, j, n);
            }
        }
    }
}
