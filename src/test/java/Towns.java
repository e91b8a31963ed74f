/** What several tests do with a town. */
final class Towns {
    private Towns() {
    }

    /** All that can be seen of a town without changing it and without a finding (sheets can't). */
    static String told(RumourBeds x) {
        StringBuilder all = new StringBuilder("houses");
        for (int h = 0; h < 8; h++) {
            for (int what = 0; what <= 5; what++) {
                all.append(what == 0 ? " / " : " ").append(x.houseOf(h, what));
            }
        }
        all.append(" rumours");
        for (int r = 0; r < x.count(0); r++) {
            for (int what = 0; what <= 7; what++) {
                all.append(what == 0 ? " / " : " ").append(x.of(r, what));
            }
        }
        all.append(" now");
        for (int what = 0; what <= 6; what++) {
            all.append(' ').append(x.now(what));
        }
        all.append(" count");
        for (int what = 0; what <= 3; what++) {
            all.append(' ').append(x.count(what));
        }
        return all.toString();
    }

    /** The numbers of a sheet of n, which are as before behind it. */
    static String toldSheet(RumourBeds x, int s, int n) {
        StringBuilder all = new StringBuilder("sheet");
        for (int i = 0; i < n; i++) {
            long v = x.write(s, i, 0);
            x.write(s, i, v);
            all.append(' ').append(v);
        }
        return all.toString();
    }

    /** No bed anywhere but in one house. */
    static void closeAllBut(RumourBeds x, int house) {
        for (int h = 0; h < 8; h++) {
            if (h != house) {
                x.house(h, 0, 0);
            }
        }
    }

    static void allLean(RumourBeds x, int leans) {
        for (int h = 0; h < 8; h++) {
            x.house(h, 2, leans);
        }
    }

    /** A new one, lodged in a house that has a bed free: its number. That house leans as before, then. */
    static int lodge(RumourBeds x, int kind, int event, int house) {
        int rumour = x.rumour(kind, event);
        int leant = x.house(house, 2, 9);
        if (x.comeIn(rumour) != house) {
            throw new IllegalStateException("the test's own town is wrong: " + rumour + " is not in " + house);
        }
        x.house(house, 2, leant);
        return rumour;
    }

    /** A new one on the road, of a bulk and an age. */
    static int one(RumourBeds x, int kind, int bulk, int age) {
        int rumour = x.rumour(kind, 0);
        x.set(rumour, 2, bulk);
        x.set(rumour, 3, age);
        return rumour;
    }

    /** New plain ones of an event until there are so many. */
    static void fill(RumourBeds x, int many, int event) {
        for (int r = x.count(0); r < many; r++) {
            x.rumour(0, event);
        }
    }

    /** To the last day but so many. */
    static void toTheEndBut(RumourBeds x, int left) {
        int togo = 9999 - left - x.now(0);
        while (togo > 0) {
            int n = Math.min(60, togo);
            x.days(n);
            togo -= n;
        }
    }

    /** Feeds a text to the tape, four bytes a call where there are as many. */
    static void feed(RumourBeds x, String text) {
        int at = 0;
        while (at < text.length()) {
            int n = Math.min(4, text.length() - at);
            int bytes = 0;
            for (int i = 0; i < n; i++) {
                bytes = (bytes << 8) | (text.charAt(at + i) & 255);
            }
            x.feed(bytes, n);
            at += n;
        }
    }

    static int tell(RumourBeds x, String text) {
        feed(x, text);
        return x.town();
    }
}
