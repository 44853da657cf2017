/** All that calls can tell of an object, as one text, so that two objects can be laid side by side. It uses the object up. */
final class Probe {
    private final AheadOfAFriend x;
    private final StringBuilder told = new StringBuilder();

    private Probe(AheadOfAFriend x) {
        this.x = x;
    }

    static String all(AheadOfAFriend x) {
        Probe p = new Probe(x);
        p.land();
        p.texts();
        p.tape();
        p.say("image", x.back());
        p.land();
        // From now on the image is one of as few as can be, so that people who come by a SHEET have room.
        p.say("rule", x.force(0));
        p.say("image", x.image());
        for (int sheet = 0; sheet < 4; sheet++) {
            p.sheet(sheet);
        }
        return p.told.toString();
    }

    private void say(String what, long answer) {
        told.append(what).append(' ').append(answer).append('\n');
    }

    /** PEOPLE, THE LINE, and ORDERS, by which what all LIKE is seen once more. */
    private void land() {
        for (int what = 0; what <= 5; what++) {
            say("count " + what, x.count(what));
        }
        for (int place = 0; place < 5; place++) {
            say("place " + place, x.first(place));
        }
        for (int one = 0; one < x.count(0); one++) {
            for (int what = 0; what <= 14; what++) {
                say("told " + one + " " + what, x.told(one, what));
            }
        }
        say("orders", x.orders(0));
    }

    private void texts() {
        int rule = x.count(5);
        for (int text = 0; text < x.count(3); text++) {
            x.force(text);
            say("text " + text + " lasts", x.told(0, 7));
            say("text " + text + " irks", x.told(0, 8));
            say("text " + text + " minds", x.told(0, 11));
        }
        x.force(rule);
    }

    private void tape() {
        int text = x.text();
        say("tape", text);
        if (text >= 0) {
            x.force(text);
            say("tape lasts", x.told(0, 7));
            say("tape irks", x.told(0, 8));
        }
        say("tape then", x.count(4));
    }

    /** Sort, size, and the items, two by two as KIND and NUMBER of one who comes and is taken back. */
    private void sheet(int sheet) {
        int sort = -1;
        for (int k = 0; k < 3; k++) {
            int answer = x.people(sheet, k, 0, 0);
            say("sheet " + sheet + " as " + k, answer);
            sort = answer == 0 ? k : sort;
        }
        int size = 0;
        while (sort >= 0 && x.copy(sheet, size + 1, sheet, size + 1, 0) == 0) {
            size++;
        }
        say("sheet " + sheet + " size", size);
        for (int i = 0; i < size; i++) {
            say("item " + i, x.people(sheet, sort, Math.min(i, size - 2), 1));
            int one = x.count(0) - 1;
            say("item " + i, x.told(one, 5));
            say("item " + i, x.told(one, 1));
            x.back();
        }
    }

    /** A call by its name, for tables of calls. */
    static long call(AheadOfAFriend x, String name, int... a) {
        switch (name) {
            case "set": return x.set(a[0], a[1], a[2]);
            case "person": return x.person(a[0], a[1]);
            case "told": return x.told(a[0], a[1]);
            case "feed": return x.feed(a[0]);
            case "text": return x.text();
            case "force": return x.force(a[0]);
            case "first": return x.first(a[0]);
            case "pass": return x.pass(a[0]);
            case "haste": return x.haste();
            case "minute": return x.minute();
            case "come": return x.come(a[0]);
            case "orders": return x.orders(a[0]);
            case "fewest": return x.fewest(a[0]);
            case "ahead": return x.ahead(a[0], a[1]);
            case "run": return x.run(a[0], a[1]);
            case "tells": return x.tells(a[0], a[1], a[2]);
            case "film": return x.film(a[0], a[1]);
            case "drawn": return x.drawn(a[0]);
            case "chance": return x.chance(a[0], a[1], a[2], a[3]);
            case "image": return x.image();
            case "back": return x.back();
            case "count": return x.count(a[0]);
            case "sheet": return x.sheet(a[0], a[1], a[2]);
            case "cell": return x.cell(a[0], a[1], a[2]);
            case "copy": return x.copy(a[0], a[1], a[2], a[3], a[4]);
            case "people": return x.people(a[0], a[1], a[2], a[3]);
            case "taken": return x.taken(a[0], a[1]);
            default: throw new IllegalArgumentException(name);
        }
    }
}
