/** The terms of houses, and promises 1 to 3: a new object, house, houseOf. */
public final class HousesTest {
    public static void main(String[] args) {
        Sentences.run(HousesTest.class);
    }

    @Says(words = "1. HOUSES 0 to 7 along a street")
    static void eightHouses(RumourBeds x, Due due) {
        for (int h = 0; h < 8; h++) {
            due.is("house " + h, x.houseOf(h, 3), 0);
        }
        due.is("house 8", x.houseOf(8, 3), Due.BEYOND);
        due.is("house -1", x.houseOf(-1, 3), Due.BEYOND);
    }

    @Says(words = "that goes round (behind 7 comes 0),")
    static void behindSevenComesNought(RumourBeds x, Due due) {
        Towns.lodge(x, 0, 1, 7);
        due.is("improved in 7", x.improve(0, 1), 0);
    }

    private static void mayBe(RumourBeds x, Due due, int what, int first, int most) {
        for (int h = 0; h < 8; h++) {
            due.is("at first, of " + h, x.houseOf(h, what), first);
            due.is("to most", x.house(h, what, most), first);
            due.is("above", x.house(h, what, most + 1), Due.BEYOND);
            due.is("it is the most", x.houseOf(h, what), most);
            due.is("to 0", x.house(h, what, 0), most);
            due.is("below", x.house(h, what, -1), Due.BEYOND);
            due.is("it is 0", x.houseOf(h, what), 0);
        }
    }

    @Says(words = "each with BEDS (0 to 3; 1 at first),")
    static void bedsMayBe(RumourBeds x, Due due) {
        mayBe(x, due, 0, 1, 3);
    }

    @Says(words = "a LARDER (0 to 999; 50 at first),")
    static void larderMayBe(RumourBeds x, Due due) {
        mayBe(x, due, 1, 50, 999);
    }

    @Says(words = "LEANS (0 to 9; 3 at first).")
    static void leansMayBe(RumourBeds x, Due due) {
        mayBe(x, due, 2, 3, 9);
    }

    @Says(words = "DAY: 0 at first (9999 at most).")
    static void dayMayBe(RumourBeds x, Due due) {
        due.is("at first", x.now(0), 0);
        Towns.toTheEndBut(x, 1);
        due.is("one short", x.now(0), 9998);
        due.is("the last", x.days(1), 0);
        due.is("at most", x.now(0), 9999);
        due.is("above", x.days(1), Due.STATE);
        due.is("still", x.now(0), 9999);
    }

    @Says(words = "TRUE: a set of EVENTS 0 to 15 (none at first).")
    static void trueMayBe(RumourBeds x, Due due) {
        due.is("none at first", x.now(1), 0);
        for (int e = 0; e < 16; e++) {
            x.comesTrue(e);
            due.is("0 to " + e, x.now(1), (2 << e) - 1);
        }
        due.is("event 16", x.comesTrue(16), Due.BEYOND);
        due.is("event -1", x.comesTrue(-1), Due.BEYOND);
        due.is("all", x.now(1), 65535);
    }

    @Says(promise = 1, words = "No RUMOURS;")
    static void noRumours(RumourBeds x, Due due) {
        due.is("how many", x.count(0), 0);
        due.is("in houses", x.count(2), 0);
        due.is("on the road", x.now(2), 0);
        due.is("rumour 0", x.of(0, 0), Due.BEYOND);
        due.is("bulk of all", x.now(3), 0);
    }

    @Says(promise = 1, words = "THE TAPE is empty,")
    static void anEmptyTape(RumourBeds x, Due due) {
        due.is("bytes", x.count(1), 0);
        due.is("wiped", x.wipe(), 0);
        due.is("it ends too early, at 0", x.town(), -1);
    }

    @Says(promise = 1, words = "no image is kept.")
    static void noImage(RumourBeds x, Due due) {
        due.is("tear", x.tear(), 0);
        due.is("undo", x.undo(), Due.NONE);
    }

    @Says(promise = 2, words = "BEDS (what 0),")
    static void beds(RumourBeds x, Due due) {
        x.house(4, 0, 2);
        due.is("beds", x.houseOf(4, 0), 2);
        due.is("larder stays", x.houseOf(4, 1), 50);
        due.is("leans stay", x.houseOf(4, 2), 3);
        due.is("all beds", x.count(3), 9);
    }

    @Says(promise = 2, words = "LARDER (1),")
    static void larder(RumourBeds x, Due due) {
        x.house(4, 1, 7);
        due.is("larder", x.houseOf(4, 1), 7);
        due.is("beds stay", x.houseOf(4, 0), 1);
        due.is("leans stay", x.houseOf(4, 2), 3);
        due.is("all larders", x.now(4), 357);
    }

    @Says(promise = 2, words = "LEANS (2) of a HOUSE becomes v")
    static void leans(RumourBeds x, Due due) {
        x.house(4, 2, 8);
        due.is("leans", x.houseOf(4, 2), 8);
        due.is("beds stay", x.houseOf(4, 0), 1);
        due.is("larder stays", x.houseOf(4, 1), 50);
        for (int h = 0; h < 8; h++) {
            due.is("leans of " + h, x.houseOf(h, 2), h == 4 ? 8 : 3);
        }
    }

    @Says(promise = 2, words = "(who lodges there stays):")
    static void whoLodgesThereStays(RumourBeds x, Due due) {
        x.house(2, 0, 3);
        for (int e = 0; e < 3; e++) {
            Towns.lodge(x, 0, e, 2);
        }
        due.is("no beds any more", x.house(2, 0, 0), 3);
        due.is("all three stay", x.houseOf(2, 3), 7);
        due.is("no leaning any more", x.house(2, 2, 0), 3);
        due.is("all three stay", x.houseOf(2, 3), 7);
        due.is("a day", x.days(1), 3);
        due.is("over the day, too", x.houseOf(2, 3), 7);
        due.is("they eat", x.houseOf(2, 1), 44);
        due.is("nothing to eat any more", x.house(2, 1, 0), 44);
        due.is("all three stay now", x.houseOf(2, 3), 7);
        due.is("none of it is taken there", x.takes(2, 0), 0);
    }

    @Says(promise = 2, words = "what it was.")
    static void whatItWas(RumourBeds x, Due due) {
        int[] first = {1, 50, 3};
        for (int what = 0; what <= 2; what++) {
            due.is("at first", x.house(7, what, 2), first[what]);
            due.is("then", x.house(7, what, 0), 2);
            due.is("the same again", x.house(7, what, 0), 0);
        }
    }

    @Says(promise = 2, words = "BEYOND.")
    static void houseOfNoHouse(RumourBeds x, Due due) {
        due.bounds(x, "house", h -> x.house(h, 0, 2), 0, 7);
    }

    @Says(promise = 2, words = "BEYOND.")
    static void houseOfNoWhat(RumourBeds x, Due due) {
        due.bounds(x, "what", what -> x.house(3, what, 1), 0, 2);
    }

    @Says(promise = 2, words = "BEYOND.")
    static void houseOfNoSuchBeds(RumourBeds x, Due due) {
        due.bounds(x, "beds", v -> x.house(3, 0, v), 0, 3);
    }

    @Says(promise = 2, words = "BEYOND.")
    static void houseOfNoSuchLarder(RumourBeds x, Due due) {
        due.bounds(x, "larder", v -> x.house(3, 1, v), 0, 999);
    }

    @Says(promise = 2, words = "BEYOND.")
    static void houseOfNoSuchLeans(RumourBeds x, Due due) {
        due.bounds(x, "leans", v -> x.house(3, 2, v), 0, 9);
    }

    @Says(promise = 3, words = "Of a HOUSE: what 0 BEDS,")
    static void whatBeds(RumourBeds x, Due due) {
        x.house(5, 0, 3);
        due.is("beds of 5", x.houseOf(5, 0), 3);
        due.is("beds of 4", x.houseOf(4, 0), 1);
    }

    @Says(promise = 3, words = "1 LARDER,")
    static void whatLarder(RumourBeds x, Due due) {
        x.house(5, 1, 999);
        due.is("larder of 5", x.houseOf(5, 1), 999);
        due.is("larder of 6", x.houseOf(6, 1), 50);
    }

    @Says(promise = 3, words = "2 LEANS,")
    static void whatLeans(RumourBeds x, Due due) {
        x.house(0, 2, 9);
        due.is("leans of 0", x.houseOf(0, 2), 9);
        due.is("leans of 7", x.houseOf(7, 2), 3);
    }

    @Says(promise = 3, words = "3 who lodges there, as a set,")
    static void whoLodgesThere(RumourBeds x, Due due) {
        due.is("nobody", x.houseOf(6, 3), 0);
        Towns.fill(x, 10, 0);
        due.is("nobody of those on the road", x.houseOf(6, 3), 0);
        x.house(6, 0, 3);
        x.house(6, 2, 9);
        x.comeIn(0);
        due.is("the first of all", x.houseOf(6, 3), 1);
        x.comeIn(9);
        x.comeIn(5);
        due.is("0, 5 and 9", x.houseOf(6, 3), 1 + 32 + 512);
        x.comeIn(1);
        due.is("another is elsewhere", x.houseOf(6, 3), 1 + 32 + 512);
        due.is("in 0", x.houseOf(0, 3), 2);
    }

    @Says(promise = 3, words = "4 EVENTS of these, as a set,")
    static void eventsOfThese(RumourBeds x, Due due) {
        due.is("of nobody", x.houseOf(6, 4), 0);
        x.house(6, 0, 3);
        Towns.lodge(x, 0, 0, 6);
        due.is("the least event", x.houseOf(6, 4), 1);
        x.rumour(0, 7);
        due.is("none of the road", x.houseOf(6, 4), 1);
        Towns.lodge(x, 0, 15, 6);
        due.is("and the greatest", x.houseOf(6, 4), 1 + 32768);
        Towns.lodge(x, 0, 15, 6);
        due.is("one twice", x.houseOf(6, 4), 1 + 32768);
        due.is("elsewhere", x.houseOf(5, 4), 0);
    }

    @Says(promise = 3, words = "5 what they EAT together.")
    static void whatTheyEat(RumourBeds x, Due due) {
        due.is("nobody eats", x.houseOf(6, 5), 0);
        Towns.one(x, 4, 99, 0);
        x.house(6, 0, 3);
        Towns.lodge(x, 5, 1, 6);
        due.is("one of wells eats nothing", x.houseOf(6, 5), 0);
        Towns.lodge(x, 4, 2, 6);
        x.set(2, 2, 99);
        due.is("one royal", x.houseOf(6, 5), 23);
        Towns.lodge(x, 1, 3, 6);
        x.set(3, 2, 99);
        due.is("and one big", x.houseOf(6, 5), 43);
        due.is("elsewhere", x.houseOf(5, 5), 0);
        x.house(6, 1, 0);
        due.is("whatever there is to eat", x.houseOf(6, 5), 43);
    }

    @Says(promise = 3, words = "BEYOND.")
    static void houseOfOfNoHouse(RumourBeds x, Due due) {
        due.bounds(x, "house", h -> x.houseOf(h, 0), 0, 7);
    }

    @Says(promise = 3, words = "BEYOND.")
    static void houseOfOfNoWhat(RumourBeds x, Due due) {
        due.bounds(x, "what", what -> x.houseOf(0, what), 0, 5);
    }
}
