/** Promises 16 to 20: on, larder, empty, many, out. */
public final class AheadTest {
    private static final Due due = new Due();

    public static void main(String[] args) {
        onAndLarder();
        empty();
        many();
        out();
        nothingChanges();
        due.end();
    }

    /** A plain one in house 0, with 50: it eats 2 a day for ten days, while it grows to 20, then 3. */
    private static RumourBeds plain() {
        RumourBeds x = new RumourBeds();
        x.rumour(0, 1);
        x.comeIn(0);
        return x;
    }

    private static void onAndLarder() {
        RumourBeds x = plain();
        due.is("bulk now", x.on(0, 0, 1), 10);
        due.is("bulk on 7", x.on(0, 7, 1), 17);
        due.is("house on 7", x.on(0, 7, 0), 0);
        due.is("larder now", x.larder(0, 0), 50);
        due.is("larder on 1", x.larder(0, 1), 48);
        due.is("larder on 10", x.larder(0, 10), 30);
        due.is("larder on 11", x.larder(0, 11), 27);
        due.is("larder on 20", x.larder(0, 20), 0);
        // On the 21st day it finds nothing, is out, and in again at once: 0 is the least of as far ones.
        due.is("bulk on 21", x.on(0, 21, 1), 30);
        due.is("house on 21", x.on(0, 21, 0), 0);
        x.house(5, 2, 4);
        due.is("house on 20", x.on(0, 20, 0), 0);
        due.is("house on 21", x.on(0, 21, 0), 5);
        due.is("larder of 5 on 21", x.larder(5, 21), 50);
        due.is("larder of 5 on 22", x.larder(5, 22), 46);
        due.is("bulk on 60", x.on(0, 60, 1), x.on(0, 59, 1));
        due.is("n 61", x.on(0, 61, 0), Due.BEYOND);
        due.is("n -1", x.on(0, -1, 0), Due.BEYOND);
        due.is("what 2", x.on(0, 0, 2), Due.BEYOND);
        due.is("what -1", x.on(0, 0, -1), Due.BEYOND);
        due.is("rumour 1", x.on(1, 0, 0), Due.BEYOND);
        due.is("rumour -1", x.on(-1, 0, 0), Due.BEYOND);
        due.is("larder n 61", x.larder(0, 61), Due.BEYOND);
        due.is("larder n -1", x.larder(0, -1), Due.BEYOND);
        due.is("larder of 8", x.larder(8, 0), Due.BEYOND);
        due.is("larder of -1", x.larder(-1, 0), Due.BEYOND);
        due.is("larder n 60", x.larder(1, 60), 50);
    }

    private static void empty() {
        RumourBeds x = plain();
        due.is("empty", x.empty(0), 20);
        due.is("never", x.empty(1), Due.NONE);
        x.house(1, 1, 0);
        due.is("now", x.empty(1), 0);
        x.turn(0, 2);
        x.house(0, 1, 60);
        due.is("on the 60th day", x.empty(0), 60);
        x.house(0, 1, 61);
        due.is("on the 61st", x.empty(0), Due.NONE);
        due.is("house 8", x.empty(8), Due.BEYOND);
        due.is("house -1", x.empty(-1), Due.BEYOND);
    }

    private static void many() {
        RumourBeds x = plain();
        due.is("one", x.many(60), 1);
        x.house(0, 0, 2);
        x.rumour(0, 1);
        x.house(0, 2, 4);
        x.comeIn(1);
        due.is("now", x.many(0), 2);
        due.is("on 1", x.many(1), 3);
        due.is("on 2", x.many(2), 4);
        due.is("n 61", x.many(61), Due.BEYOND);
        due.is("n -1", x.many(-1), Due.BEYOND);
        due.is("a third that isn't yet is no such one", x.on(2, 1, 0), Due.BEYOND);
    }

    private static void out() {
        RumourBeds x = plain();
        due.is("in again at once", x.out(0), Due.NONE);
        x.house(0, 2, 0);
        for (int h = 1; h < 8; h++) {
            x.house(h, 0, 0);
        }
        due.is("when the 21st day has gone", x.out(0), 21);
        x.rumour(0, 2);
        due.is("now", x.out(1), 0);
        x.turn(0, 2);
        x.house(0, 1, 59);
        due.is("on the 60th", x.out(0), 60);
        x.house(0, 1, 60);
        due.is("on the 61st", x.out(0), Due.NONE);
        due.is("rumour 2", x.out(2), Due.BEYOND);
        due.is("rumour -1", x.out(-1), Due.BEYOND);
    }

    private static void nothingChanges() {
        RumourBeds x = plain();
        x.on(0, 60, 0);
        x.larder(0, 60);
        x.empty(0);
        x.many(60);
        x.out(0);
        due.is("day", x.now(0), 0);
        due.is("larder", x.houseOf(0, 1), 50);
        due.is("bulk", x.of(0, 2), 10);
        due.is("age", x.of(0, 3), 0);
        due.is("on 3 days of days gone", x.larder(0, 3), 44);
        x.days(3);
        due.is("as foreseen", x.houseOf(0, 1), 44);
    }
}
