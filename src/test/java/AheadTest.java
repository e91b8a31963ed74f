/** ON, and promises 16 to 20: on, larder, empty, many, out. */
public final class AheadTest {
    public static void main(String[] args) {
        Sentences.run(AheadTest.class);
    }

    /** A plain one in house 0, with 50: it eats 2 a day for ten days, while it grows to 20, then 3. */
    private static void plain(RumourBeds x) {
        x.rumour(0, 1);
        x.comeIn(0);
    }

    /** A pair, a big one, one on the road: thirds are made, larders emptied, lodgers put out. */
    private static void lively(RumourBeds x) {
        x.house(2, 0, 3);
        Towns.lodge(x, 0, 1, 2);
        Towns.lodge(x, 1, 1, 2);
        Towns.lodge(x, 4, 2, 5);
        x.rumour(3, 3);
        x.house(6, 2, 4);
        x.rumour(0, 9);
        x.comesTrue(9);
    }

    @Says(words = "2. ON: n DAYS go on with all as it is;")
    static void asIfTheDaysWent(RumourBeds x, Due due) {
        lively(x);
        int[] days = {0, 1, 2, 3, 7, 20, 59, 60};
        for (int n : days) {
            RumourBeds gone = new RumourBeds();
            lively(gone);
            if (n > 0) {
                gone.days(n);
            }
            due.is("many(" + n + ")", x.many(n), gone.count(0));
            for (int r = 0; r < 5; r++) {
                due.is("on(" + r + ", " + n + ", 0)", x.on(r, n, 0), gone.of(r, 4));
                due.is("on(" + r + ", " + n + ", 1)", x.on(r, n, 1), gone.of(r, 2));
            }
            for (int h = 0; h < 8; h++) {
                due.is("larder(" + h + ", " + n + ")", x.larder(h, n), gone.houseOf(h, 1));
            }
        }
    }

    @Says(words = "2. ON: n DAYS go on with all as it is;")
    static void onFromTheLastDay(RumourBeds x, Due due) {
        Towns.toTheEndBut(x, 0);
        plain(x);
        due.is("DAY is the last, but they go on", x.larder(0, 2), 46);
        due.is("sixty of them", x.on(0, 60, 1), 30);
        due.is("no finding", x.status(-1), 0);
    }

    @Says(words = "nothing changes.")
    static void nothingChanges(RumourBeds x, Due due) {
        lively(x);
        x.sheet(0, 16, 9);
        String before = Towns.told(x);
        x.on(0, 60, 0);
        x.on(0, 60, 1);
        x.larder(2, 60);
        x.empty(2);
        x.many(60);
        x.out(0);
        x.best(20);
        x.leanFor(2, 20);
        x.beds(2, 20);
        x.book(0, 2);
        x.read(0, 2);
        due.isAsBefore("looking ahead", x, before);
        int foreseen = x.larder(2, 3);
        x.days(3);
        due.is("as foreseen", x.houseOf(2, 1), foreseen);
    }

    @Says(promise = 16, words = "HOUSE (what 0),")
    static void houseAhead(RumourBeds x, Due due) {
        plain(x);
        x.house(5, 2, 4);
        x.rumour(5, 2);
        due.is("now", x.on(0, 0, 0), 0);
        due.is("on 20 it has eaten the last", x.on(0, 20, 0), 0);
        due.is("on 21 it is out, and in 5", x.on(0, 21, 0), 5);
        due.is("the other is on the road", x.on(1, 0, 0), -1);
        due.is("and stays there", x.on(1, 60, 0), -1);
    }

    @Says(promise = 16, words = "BULK (1) of a RUMOUR")
    static void bulkAhead(RumourBeds x, Due due) {
        plain(x);
        due.is("now", x.on(0, 0, 1), 10);
        due.is("on 7", x.on(0, 7, 1), 17);
        due.is("on 20", x.on(0, 20, 1), 30);
        due.is("on 21 there is nothing", x.on(0, 21, 1), 30);
        x.turn(0, 1);
        x.house(0, 1, 999);
        due.is("99 at most", x.on(0, 60, 1), 99);
    }

    @Says(promise = 16, words = "ON n DAYS (0 to 60).")
    static void noughtToSixtyDaysAhead(RumourBeds x, Due due) {
        plain(x);
        x.house(0, 1, 999);
        x.set(0, 2, 0);
        due.is("0", x.on(0, 0, 1), 0);
        due.is("60", x.on(0, 60, 1), 60);
        due.is("61", x.on(0, 61, 1), Due.BEYOND);
        due.is("-1", x.on(0, -1, 1), Due.BEYOND);
    }

    @Says(promise = 16, words = "BEYOND.")
    static void onOfNoRumour(RumourBeds x, Due due) {
        Towns.fill(x, 2, 0);
        due.bounds(x, "rumour", r -> x.on(r, 1, 0), 0, 1);
    }

    @Says(promise = 16, words = "BEYOND.")
    static void onOfAThirdThatIsNotYet(RumourBeds x, Due due) {
        x.house(2, 0, 2);
        Towns.lodge(x, 2, 1, 2);
        Towns.lodge(x, 2, 1, 2);
        due.is("there will be a third", x.many(1), 3);
        due.is("which is no such one now", x.on(2, 1, 0), Due.BEYOND);
    }

    @Says(promise = 16, words = "BEYOND.")
    static void onNoDays(RumourBeds x, Due due) {
        plain(x);
        due.bounds(x, "n", n -> x.on(0, n, 0), 0, 60);
    }

    @Says(promise = 16, words = "BEYOND.")
    static void onOfNoWhat(RumourBeds x, Due due) {
        plain(x);
        due.bounds(x, "what", what -> x.on(0, 1, what), 0, 1);
    }

    @Says(promise = 17, words = "LARDER of a HOUSE")
    static void larderAhead(RumourBeds x, Due due) {
        plain(x);
        due.is("on 1", x.larder(0, 1), 48);
        due.is("on 10", x.larder(0, 10), 30);
        due.is("on 11, now that it eats 3", x.larder(0, 11), 27);
        due.is("on 20", x.larder(0, 20), 0);
        due.is("not below 0", x.larder(0, 21), 0);
        due.is("of the last house", x.larder(7, 21), 50);
    }

    @Says(promise = 17, words = "ON n DAYS (0 to 60).")
    static void larderNoughtToSixtyDaysAhead(RumourBeds x, Due due) {
        Towns.lodge(x, 2, 1, 7);
        x.house(7, 1, 999);
        due.is("0", x.larder(7, 0), 999);
        due.is("60", x.larder(7, 60), 939);
        due.is("61", x.larder(7, 61), Due.BEYOND);
        due.is("-1", x.larder(7, -1), Due.BEYOND);
    }

    @Says(promise = 17, words = "BEYOND.")
    static void larderOfNoHouse(RumourBeds x, Due due) {
        due.bounds(x, "house", h -> x.larder(h, 1), 0, 7);
    }

    @Says(promise = 17, words = "BEYOND.")
    static void larderOnNoDays(RumourBeds x, Due due) {
        plain(x);
        due.bounds(x, "n", n -> x.larder(0, n), 0, 60);
    }

    @Says(promise = 18, words = "In how many DAYS (0 to 60) ON")
    static void emptyInNoughtToSixtyDays(RumourBeds x, Due due) {
        Towns.lodge(x, 2, 1, 7);
        for (int larder : new int[] {0, 1, 2, 59, 60}) {
            x.house(7, 1, larder);
            due.is("larder " + larder, x.empty(7), larder);
        }
        x.house(7, 1, 61);
        due.is("larder 61", x.empty(7), Due.NONE);
    }

    @Says(promise = 18, words = "the LARDER of a HOUSE is 0 first.")
    static void emptyFirst(RumourBeds x, Due due) {
        plain(x);
        due.is("just eaten up on 20", x.empty(0), 20);
        x.house(0, 1, 49);
        due.is("less than is eaten on 20", x.empty(0), 20);
        x.house(0, 1, 0);
        due.is("now, whoever lodges there", x.empty(0), 0);
        x.house(1, 1, 0);
        due.is("now, where nobody does", x.empty(1), 0);
    }

    @Says(promise = 18, words = "BEYOND.")
    static void emptyOfNoHouse(RumourBeds x, Due due) {
        for (int h = 0; h < 8; h++) {
            x.house(h, 1, 0);
        }
        due.bounds(x, "house", x::empty, 0, 7);
    }

    @Says(promise = 18, words = "NONE.")
    static void neverEmpty(RumourBeds x, Due due) {
        due.is("nobody eats", x.empty(3), Due.NONE);
        Towns.lodge(x, 5, 1, 3);
        x.house(3, 1, 1);
        due.is("one of wells eats nothing", x.empty(3), Due.NONE);
        due.is("counted", x.status(3), 2);
    }

    @Says(promise = 19, words = "How many RUMOURS there are")
    static void howMany(RumourBeds x, Due due) {
        due.is("none", x.many(60), 0);
        x.house(2, 0, 2);
        Towns.lodge(x, 2, 1, 2);
        Towns.lodge(x, 2, 1, 2);
        due.is("now", x.many(0), 2);
        due.is("and a third", x.many(1), 3);
        due.is("and another", x.many(2), 4);
        due.is("ten at most", x.many(60), 10);
    }

    @Says(promise = 19, words = "ON n DAYS (0 to 60).")
    static void howManyNoughtToSixtyDaysAhead(RumourBeds x, Due due) {
        // A dull one eats up 58, is put out on the 59th day, and into 7, where another is: on the 60th there is a third.
        Towns.lodge(x, 2, 1, 7);
        Towns.lodge(x, 2, 1, 5);
        x.house(7, 0, 2);
        x.house(7, 1, 999);
        x.house(7, 2, 9);
        x.house(5, 1, 58);
        due.is("0", x.many(0), 2);
        due.is("59", x.many(59), 2);
        due.is("60", x.many(60), 3);
        due.is("61", x.many(61), Due.BEYOND);
        due.is("-1", x.many(-1), Due.BEYOND);
        x.house(5, 1, 59);
        due.is("a day later", x.many(60), 2);
    }

    @Says(promise = 19, words = "BEYOND.")
    static void howManyOnNoDays(RumourBeds x, Due due) {
        plain(x);
        due.bounds(x, "n", x::many, 0, 60);
    }

    @Says(promise = 20, words = "In how many DAYS (0 to 60) ON a RUMOUR is on the ROAD first")
    static void outInNoughtToSixtyDays(RumourBeds x, Due due) {
        Towns.lodge(x, 2, 1, 7);
        x.house(7, 1, 0);
        due.is("larder 0", x.out(0), 1);
        x.house(7, 1, 58);
        due.is("larder 58", x.out(0), 59);
        x.house(7, 1, 59);
        due.is("larder 59", x.out(0), 60);
        x.house(7, 1, 60);
        due.is("larder 60", x.out(0), Due.NONE);
        x.comesTrue(1);
        due.is("on the road", x.out(0), 0);
    }

    @Says(promise = 20, words = "(0: now;")
    static void outNow(RumourBeds x, Due due) {
        x.rumour(0, 1);
        due.is("it would come in on 1, but is out now", x.out(0), 0);
        x.days(1);
        due.is("it is in", x.out(0), Due.NONE);
    }

    @Says(promise = 20, words = "else when that DAY has gone).")
    static void outWhenTheDayHasGone(RumourBeds x, Due due) {
        plain(x);
        x.house(0, 1, 0);
        due.is("put out each day, and in again before it has gone", x.out(0), Due.NONE);
        x.house(0, 2, 0);
        due.is("put out, and in elsewhere before it has gone", x.out(0), Due.NONE);
        Towns.closeAllBut(x, 0);
        due.is("put out, and nowhere in", x.out(0), 1);
    }

    @Says(promise = 20, words = "BEYOND.")
    static void outOfNoRumour(RumourBeds x, Due due) {
        due.is("when there is none", x.out(0), Due.BEYOND);
        Towns.fill(x, 2, 0);
        due.bounds(x, "rumour", x::out, 0, 1);
    }

    @Says(promise = 20, words = "NONE.")
    static void neverOut(RumourBeds x, Due due) {
        Towns.lodge(x, 5, 1, 3);
        x.house(3, 1, 0);
        due.is("one of wells is never put out", x.out(0), Due.NONE);
        due.is("counted", x.status(3), 1);
    }
}
