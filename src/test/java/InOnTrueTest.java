/** Promises 10 to 15: comeIn, improve, comesTrue, forget, days, now. */
public final class InOnTrueTest {
    private static final Due due = new Due();

    public static void main(String[] args) {
        comeIn();
        improve();
        comesTrueAndForget();
        aDayIsEaten();
        aLarderIsShort();
        aThird();
        noThird();
        aThirdOfEventsApart();
        theThirdOfTheLeastOfThem();
        theRoadComesIn();
        ages();
        days();
        now();
        due.end();
    }

    private static void comeIn() {
        RumourBeds x = new RumourBeds();
        x.rumour(0, 1);
        x.rumour(0, 2);
        x.rumour(5, 3);
        x.house(5, 2, 6);
        x.house(6, 2, 6);
        due.is("who leans furthest, the least of two", x.comeIn(0), 5);
        due.is("then the other", x.comeIn(1), 6);
        due.is("none leans so far", x.comeIn(2), -1);
        due.is("on the road still", x.of(2, 4), -1);
        due.is("it is in a house", x.comeIn(0), Due.STATE);
        x.house(1, 2, 7);
        x.comesTrue(3);
        due.is("its event is true", x.comeIn(2), Due.STATE);
        x.forget(3);
        due.is("it is forgotten", x.comeIn(2), 1);
        due.is("rumour 3", x.comeIn(3), Due.BEYOND);
        due.is("rumour -1", x.comeIn(-1), Due.BEYOND);
    }

    private static void improve() {
        RumourBeds x = new RumourBeds();
        x.rumour(1, 1);
        due.is("on the road", x.improve(0, 1), Due.STATE);
        due.is("v comes first", x.improve(0, 0), Due.BEYOND);
        x.house(6, 2, 9);
        due.is("in 6", x.comeIn(0), 6);
        x.house(7, 2, 2);
        due.is("20 is too big for 7, it goes round", x.improve(0, 10), 0);
        due.is("bulk", x.of(0, 2), 20);
        due.is("the next", x.improve(0, 20), 1);
        due.is("bulk", x.of(0, 2), 40);
        x.set(0, 2, 98);
        due.is("held to 99", x.improve(0, 20), 2);
        due.is("bulk", x.of(0, 2), 99);
        for (int h = 0; h < 8; h++) {
            x.house(h, 0, h == 2 ? 3 : 0);
        }
        due.is("no other takes it", x.improve(0, 1), 2);
        due.is("v 21", x.improve(0, 21), Due.BEYOND);
        due.is("v -1", x.improve(0, -1), Due.BEYOND);
        due.is("rumour 1", x.improve(1, 1), Due.BEYOND);
        x.house(1, 0, 1);
        due.is("the last behind its own", x.improve(0, 1), 1);
    }

    private static void comesTrueAndForget() {
        RumourBeds x = new RumourBeds();
        x.rumour(0, 7);
        x.rumour(0, 7);
        x.rumour(0, 8);
        x.rumour(0, 7);
        x.comeIn(0);
        x.comeIn(2);
        x.comeIn(3);
        due.is("two left", x.comesTrue(7), 2);
        due.is("three on the road", x.now(2), 11);
        due.is("true", x.now(1), 1 << 7);
        due.is("nobody left", x.comesTrue(7), 0);
        due.is("days", x.days(2), 4);
        due.is("none came in", x.now(2), 11);
        due.is("its bed is free", x.houseOf(0, 3), 0);
        x.set(2, 1, 7);
        due.is("one became of it in its house", x.comesTrue(7), 1);
        due.is("forget", x.forget(7), 1);
        due.is("forget again", x.forget(7), 0);
        due.is("none is true", x.now(1), 0);
        due.is("days", x.days(1), 4);
        due.is("all came in", x.now(2), 0);
        due.is("event 16", x.comesTrue(16), Due.BEYOND);
        due.is("event -1", x.comesTrue(-1), Due.BEYOND);
        due.is("event 16", x.forget(16), Due.BEYOND);
        due.is("event -1", x.forget(-1), Due.BEYOND);
        due.is("event 15", x.comesTrue(15), 0);
        due.is("true", x.now(1), 1 << 15);
    }

    private static void aDayIsEaten() {
        RumourBeds x = new RumourBeds();
        x.rumour(1, 0);
        x.rumour(3, 1);
        x.house(1, 2, 4);
        x.house(0, 2, 9);
        x.comeIn(0);
        x.comeIn(1);
        x.set(0, 2, 95);
        due.is("big in 0", x.of(0, 4), 0);
        due.is("shy in 1", x.of(1, 4), 1);
        due.is("a day", x.days(1), 2);
        due.is("20 eaten", x.houseOf(0, 1), 30);
        due.is("held to 99", x.of(0, 2), 99);
        due.is("2 eaten", x.houseOf(1, 1), 48);
        due.is("grown at an even age", x.of(1, 2), 11);
        due.is("older", x.of(1, 3), 1);
        x.days(1);
        due.is("2 eaten again", x.houseOf(1, 1), 46);
        due.is("not grown at an odd age", x.of(1, 2), 11);
        due.is("day", x.now(0), 2);
    }

    private static void aLarderIsShort() {
        RumourBeds x = new RumourBeds();
        x.rumour(0, 0);
        x.house(0, 1, 2);
        x.comeIn(0);
        x.days(1);
        due.is("just enough", x.of(0, 4), 0);
        due.is("it is empty", x.houseOf(0, 1), 0);
        due.is("it grew", x.of(0, 2), 11);
        x.house(0, 1, 1);
        x.house(4, 2, 5);
        x.days(1);
        due.is("out, and in where one leans further", x.of(0, 4), 4);
        due.is("the little is gone", x.houseOf(0, 1), 0);
        due.is("it did not grow", x.of(0, 2), 11);
        due.is("nor eat there on that day", x.houseOf(4, 1), 50);
        due.is("but it is older", x.of(0, 3), 2);
    }

    private static void aThird() {
        RumourBeds x = new RumourBeds();
        x.house(3, 0, 3);
        x.house(3, 2, 9);
        x.rumour(0, 6);
        x.rumour(1, 6);
        x.set(0, 2, 10);
        x.set(1, 2, 13);
        x.comeIn(0);
        x.comeIn(1);
        due.is("by morning there was a third", x.days(1), 3);
        // 10 grows to 11, 13 (as BIG by 1 and 1) to 15
        due.is("half of both", x.of(2, 2), 13);
        due.is("of kind 0", x.of(2, 0), 0);
        due.is("of that event", x.of(2, 1), 6);
        due.is("new", x.of(2, 3), 0);
        due.is("it came in by the same door", x.of(2, 4), 3);
        due.is("next day", x.days(1), 4);
        due.is("a fourth, of the two least", x.of(3, 2), (12 + 17) / 2);
        due.is("elsewhere, 3 is full", x.of(3, 4), 0);
    }

    private static void noThird() {
        RumourBeds x = new RumourBeds();
        x.house(3, 0, 2);
        x.house(3, 2, 9);
        x.rumour(0, 6);
        x.rumour(0, 6);
        x.rumour(5, 6);
        x.comeIn(0);
        x.comeIn(1);
        due.is("one of it is on the road", x.days(1), 3);
        x.set(2, 1, 5);
        due.is("none of it is on the road", x.days(1), 4);
        for (int r = 4; r < 10; r++) {
            x.rumour(5, 5);
        }
        due.is("there are ten", x.days(3), 10);

        RumourBeds y = new RumourBeds();
        y.house(3, 0, 2);
        y.house(3, 2, 9);
        y.rumour(0, 6);
        y.rumour(0, 7);
        y.comeIn(0);
        y.comeIn(1);
        due.is("of two events", y.days(5), 2);

        RumourBeds z = new RumourBeds();
        for (int h = 3; h < 5; h++) {
            z.house(h, 0, 2);
            z.house(h, 2, 9);
        }
        for (int r = 0; r < 4; r++) {
            z.rumour(0, 6);
            z.comeIn(r);
        }
        due.is("two pairs of an event, but the first's third is on the road", z.days(1), 5);
    }

    private static void aThirdOfEventsApart() {
        RumourBeds x = new RumourBeds();
        x.house(3, 0, 3);
        x.house(3, 2, 9);
        int[] events = {0, 15, 0};
        for (int r = 0; r < 3; r++) {
            x.rumour(2, events[r]);
            x.comeIn(r);
        }
        due.is("a third of event 0", x.days(1), 4);
        due.is("its event", x.of(3, 1), 0);
        x.set(0, 1, 15);
        due.is("a third of event 15", x.days(1), 5);
        due.is("its event", x.of(4, 1), 15);

        RumourBeds y = new RumourBeds();
        y.rumour(5, 6);
        y.house(3, 0, 2);
        y.house(3, 2, 6);
        for (int r = 1; r < 3; r++) {
            y.rumour(2, 6);
            y.comeIn(r);
        }
        due.is("the first of all is on the road", y.days(1), 3);
    }

    private static void theThirdOfTheLeastOfThem() {
        RumourBeds x = new RumourBeds();
        x.house(3, 0, 3);
        x.house(3, 2, 9);
        x.rumour(2, 8);
        x.set(0, 2, 90);
        x.rumour(2, 6);
        x.set(1, 2, 20);
        x.rumour(2, 6);
        x.set(2, 2, 31);
        x.rumour(2, 6);
        x.set(3, 2, 80);
        x.comeIn(0);
        x.comeIn(2);
        x.comeIn(1);
        x.set(3, 1, 5);
        due.is("a third", x.days(1), 5);
        due.is("not of the other event's bulk, and cut", x.of(4, 2), 25);
        due.is("day", x.now(0), 1);
    }

    private static void theRoadComesIn() {
        RumourBeds x = new RumourBeds();
        x.rumour(0, 1);
        x.rumour(0, 2);
        x.rumour(0, 3);
        x.house(2, 2, 5);
        x.house(6, 2, 4);
        x.comesTrue(2);
        x.days(1);
        due.is("the first leaned furthest", x.of(0, 4), 2);
        due.is("true stays out", x.of(1, 4), -1);
        due.is("the next", x.of(2, 4), 6);
    }

    private static void ages() {
        RumourBeds x = new RumourBeds();
        x.rumour(5, 1);
        x.set(0, 3, 998);
        x.days(1);
        due.is("one on the road is older, too", x.of(0, 3), 999);
        x.days(2);
        due.is("held to 999", x.of(0, 3), 999);
    }

    private static void days() {
        RumourBeds x = new RumourBeds();
        due.is("0 days", x.days(0), Due.BEYOND);
        due.is("61 days", x.days(61), Due.BEYOND);
        due.is("-1 days", x.days(-1), Due.BEYOND);
        for (int i = 0; i < 166; i++) {
            due.is("60 days", x.days(60), 0);
        }
        due.is("day", x.now(0), 9960);
        due.is("40 days more are too many", x.days(40), Due.STATE);
        due.is("day stays", x.now(0), 9960);
        due.is("39 days", x.days(39), 0);
        due.is("day", x.now(0), 9999);
        due.is("one more", x.days(1), Due.STATE);
        due.is("0 days is beyond first", x.days(0), Due.BEYOND);
        x.rumour(0, 0);
        x.comeIn(0);
        due.is("but ON goes on", x.larder(0, 2), 46);
    }

    private static void now() {
        RumourBeds x = new RumourBeds();
        x.rumour(0, 1);
        x.rumour(4, 2);
        x.rumour(5, 3);
        x.set(1, 2, 33);
        x.house(4, 1, 999);
        due.is("day", x.now(0), 0);
        due.is("road", x.now(2), 7);
        due.is("bulk", x.now(3), 53);
        due.is("larders", x.now(4), 1349);
        due.is("free beds", x.now(5), 8);
        due.is("eaten by none", x.now(6), 0);
        x.comeIn(0);
        x.comeIn(1);
        due.is("road", x.now(2), 4);
        due.is("free beds", x.now(5), 6);
        due.is("eaten", x.now(6), 2 + 11);
        x.house(0, 0, 0);
        due.is("no bed is free below none", x.now(5), 6);
        due.is("what 7", x.now(7), Due.BEYOND);
        due.is("what -1", x.now(-1), Due.BEYOND);
    }
}
