/** COME IN, IMPROVED, TRUE, and promises 10 to 15: comeIn, improve, comesTrue, forget, days, now. */
public final class InOnTrueTest {
    public static void main(String[] args) {
        Sentences.run(InOnTrueTest.class);
    }

    @Says(words = "To COME IN (one that is on the ROAD): into the HOUSE that TAKES it and LEANS furthest;")
    static void whoLeansFurthest(RumourBeds x, Due due) {
        x.house(2, 2, 9);
        x.house(2, 0, 0);
        x.house(6, 2, 8);
        x.house(1, 2, 5);
        x.rumour(0, 1);
        x.rumour(0, 2);
        x.rumour(0, 3);
        due.is("2 leans furthest, but has no bed", x.comeIn(0), 6);
        due.is("then 1", x.comeIn(1), 1);
        due.is("then the first of all", x.comeIn(2), 0);
        due.is("it is there", x.of(0, 4), 6);
    }

    @Says(words = "To COME IN (one that is on the ROAD): into the HOUSE that TAKES it and LEANS furthest;")
    static void theLastMayLeanFurthest(RumourBeds x, Due due) {
        x.house(7, 2, 4);
        x.rumour(0, 1);
        due.is("7, though all take it", x.comeIn(0), 7);
    }

    @Says(words = "of several the least;")
    static void ofSeveralTheLeast(RumourBeds x, Due due) {
        x.house(7, 2, 6);
        x.house(5, 2, 6);
        for (int r = 0; r < 3; r++) {
            x.rumour(0, r);
        }
        due.is("of 5 and 7", x.comeIn(0), 5);
        due.is("the other", x.comeIn(1), 7);
        due.is("of all the others", x.comeIn(2), 0);
    }

    @Says(words = "if none does, it stays on the ROAD.")
    static void noneTakesOneOnTheRoad(RumourBeds x, Due due) {
        Towns.allLean(x, 6);
        x.rumour(5, 1);
        due.is("none leans so far", x.comeIn(0), -1);
        due.is("on the road", x.of(0, 4), -1);
        Towns.allLean(x, 9);
        Towns.closeAllBut(x, 8);
        due.is("none has a bed", x.comeIn(0), -1);
        due.is("on the road", x.of(0, 4), -1);
        due.is("no finding", x.status(-1), 0);
    }

    @Says(words = "To be IMPROVED by v (1 to 20), one in a HOUSE: BULK is v more (99 at most),")
    static void bulkIsMore(RumourBeds x, Due due) {
        Towns.lodge(x, 0, 1, 0);
        int[][] rows = {
            // bulk, v, bulk then
            {0, 1, 1}, {0, 20, 20}, {78, 20, 98}, {79, 20, 99}, {80, 20, 99}, {98, 1, 99}, {98, 2, 99}, {99, 1, 99}, {99, 20, 99},
        };
        for (int[] row : rows) {
            x.set(0, 2, row[0]);
            x.improve(0, row[1]);
            due.is(row[0] + " improved by " + row[1], x.of(0, 2), row[2]);
        }
    }

    @Says(words = "then it goes to the first HOUSE behind its own, round the street, that TAKES it;")
    static void theFirstHouseBehind(RumourBeds x, Due due) {
        Towns.lodge(x, 0, 1, 6);
        due.is("the next", x.improve(0, 1), 7);
        due.is("round the street", x.improve(0, 1), 0);
        x.house(1, 0, 0);
        x.house(2, 2, 2);
        Towns.lodge(x, 0, 2, 3);
        due.is("past no bed, no leaning and no bed free", x.improve(0, 1), 4);
        x.house(7, 2, 9);
        due.is("not where one leans furthest", x.improve(0, 1), 5);
        due.is("the bed behind it is free again", x.takes(4, 0), 1);
    }

    @Says(words = "then it goes to the first HOUSE behind its own, round the street, that TAKES it;")
    static void theLastHouseBehind(RumourBeds x, Due due) {
        Towns.lodge(x, 0, 1, 3);
        Towns.closeAllBut(x, 2);
        due.is("seven houses on", x.improve(0, 1), 2);
    }

    @Says(words = "then it goes to the first HOUSE behind its own, round the street, that TAKES it;")
    static void itIsTakenAsItIsThen(RumourBeds x, Due due) {
        Towns.lodge(x, 1, 1, 0);
        x.house(1, 2, 2);
        x.set(0, 2, 18);
        due.is("19 is below 20", x.improve(0, 1), 1);
        x.house(2, 2, 2);
        due.is("20 isn't: it passes 2", x.improve(0, 1), 3);
    }

    @Says(words = "if none does, it stays.")
    static void noneTakesOneImproved(RumourBeds x, Due due) {
        Towns.lodge(x, 0, 1, 3);
        Towns.closeAllBut(x, 3);
        due.is("none has a bed", x.improve(0, 5), 3);
        due.is("improved it is", x.of(0, 2), 15);
        x.house(3, 0, 3);
        due.is("its own has one free, and it stays there", x.improve(0, 5), 3);
        due.is("one lodges there", x.houseOf(3, 3), 1);
        x.house(3, 0, 0);
        due.is("its own has none any more", x.improve(0, 5), 3);
        due.is("one lodges there", x.count(2), 1);
    }

    @Says(words = "An EVENT comes TRUE: all of it that are in HOUSES are on the ROAD then,")
    static void allOfItLeave(RumourBeds x, Due due) {
        x.house(2, 0, 3);
        Towns.lodge(x, 0, 7, 2);
        Towns.lodge(x, 0, 8, 2);
        Towns.lodge(x, 5, 7, 2);
        Towns.lodge(x, 1, 7, 5);
        x.rumour(0, 7);
        x.comesTrue(7);
        due.is("all of it on the road", x.now(2), 1 + 4 + 8 + 16);
        due.is("the other stays", x.of(1, 4), 2);
        due.is("their beds are free", x.now(5), 9);
        due.is("they leave at once, without paying", x.now(4), 400);
        due.is("as big as before", x.of(3, 2), 10);
    }

    @Says(words = "and while it is TRUE none of it COMES IN.")
    static void noneOfItComesIn(RumourBeds x, Due due) {
        x.comesTrue(7);
        x.rumour(0, 7);
        x.rumour(0, 8);
        due.is("not by itself", x.comeIn(0), Due.STATE);
        x.days(9);
        due.is("not by days", x.of(0, 4), -1);
        due.is("another does", x.of(1, 4), 0);
        x.set(0, 1, 8);
        due.is("not of it any more, it does", x.comeIn(0), 1);
        x.set(0, 1, 7);
        due.is("of it again, it stays where it is", x.days(1), 2);
        due.is("in 1", x.of(0, 4), 1);
    }

    @Says(promise = 10, words = "One COMES IN: the HOUSE (-1: none).")
    static void oneComesIn(RumourBeds x, Due due) {
        x.rumour(0, 1);
        x.rumour(5, 1);
        due.is("the house", x.comeIn(0), 0);
        due.is("it is there", x.of(0, 4), 0);
        due.is("its bed is taken", x.now(5), 7);
        due.is("none", x.comeIn(1), -1);
        due.is("again none", x.comeIn(1), -1);
        due.is("none is no finding", x.status(-1), 0);
    }

    @Says(promise = 10, words = "BEYOND.")
    static void comeInOfNoRumour(RumourBeds x, Due due) {
        due.is("when there is none", x.comeIn(0), Due.BEYOND);
        Towns.fill(x, 2, 0);
        due.bounds(x, "rumour", x::comeIn, 0, 1);
    }

    @Says(promise = 10, words = "STATE: it is in a HOUSE,")
    static void comeInFromAHouse(RumourBeds x, Due due) {
        Towns.lodge(x, 0, 1, 4);
        x.house(6, 2, 9);
        due.is("it is in 4", x.comeIn(0), Due.STATE);
        due.is("it stays there", x.of(0, 4), 4);
        due.is("counted", x.status(4), 1);
    }

    @Says(promise = 10, words = "or its EVENT is TRUE.")
    static void comeInOfATrueEvent(RumourBeds x, Due due) {
        x.rumour(0, 15);
        x.comesTrue(15);
        due.is("it is true", x.comeIn(0), Due.STATE);
        due.is("on the road", x.of(0, 4), -1);
        x.forget(15);
        x.comesTrue(14);
        due.is("another is true", x.comeIn(0), 0);
    }

    @Says(promise = 11, words = "One is IMPROVED by v (1 to 20): the HOUSE then.")
    static void oneIsImproved(RumourBeds x, Due due) {
        Towns.lodge(x, 0, 1, 5);
        due.is("by 1", x.improve(0, 1), 6);
        due.is("by 20", x.improve(0, 20), 7);
        due.is("bulk", x.of(0, 2), 31);
        due.is("house", x.of(0, 4), 7);
        x.comesTrue(3);
        x.set(0, 1, 3);
        due.is("one of a true event, too", x.improve(0, 1), 0);
        Towns.closeAllBut(x, 8);
        due.is("the same house", x.improve(0, 1), 0);
    }

    @Says(promise = 11, words = "BEYOND.")
    static void improveOfNoRumour(RumourBeds x, Due due) {
        Towns.lodge(x, 0, 1, 5);
        Towns.lodge(x, 0, 1, 6);
        due.bounds(x, "rumour", r -> x.improve(r, 1), 0, 1);
    }

    @Says(promise = 11, words = "BEYOND.")
    static void improveByNoV(RumourBeds x, Due due) {
        Towns.lodge(x, 0, 1, 5);
        due.bounds(x, "v", v -> x.improve(0, v), 1, 20);
    }

    @Says(promise = 11, words = "STATE: it is on the ROAD.")
    static void improveOnTheRoad(RumourBeds x, Due due) {
        x.rumour(0, 1);
        due.is("on the road", x.improve(0, 5), Due.STATE);
        due.is("it isn't improved", x.of(0, 2), 10);
        due.is("it is on the road", x.of(0, 4), -1);
        due.is("counted", x.status(4), 1);
    }

    @Says(promise = 12, words = "An EVENT comes TRUE: how many left.")
    static void howManyLeft(RumourBeds x, Due due) {
        due.is("there is none", x.comesTrue(0), 0);
        due.is("it is true", x.now(1), 1);
        x.rumour(0, 7);
        due.is("one on the road doesn't leave", x.comesTrue(7), 0);
        x.forget(7);
        x.house(2, 0, 3);
        for (int i = 0; i < 3; i++) {
            Towns.lodge(x, 0, 7, 2);
        }
        Towns.lodge(x, 0, 8, 3);
        Towns.lodge(x, 0, 7, 4);
        due.is("four left", x.comesTrue(7), 4);
        due.is("again none", x.comesTrue(7), 0);
        x.set(4, 1, 7);
        due.is("one that became of it in its house", x.comesTrue(7), 1);
        due.is("it is true still", x.now(1), 1 + 128);
    }

    @Says(promise = 12, words = "BEYOND.")
    static void comesTrueOfNoEvent(RumourBeds x, Due due) {
        due.bounds(x, "event", x::comesTrue, 0, 15);
        due.is("event 33, which would wrap around to 1", x.comesTrue(33), Due.BEYOND);
        due.is("0 and 15 alone", x.now(1), 32769);
    }

    @Says(promise = 13, words = "An EVENT isn't TRUE (any more): 1 if it was, else 0.")
    static void isNotTrueAnyMore(RumourBeds x, Due due) {
        due.is("it wasn't", x.forget(15), 0);
        x.comesTrue(15);
        x.comesTrue(0);
        due.is("it was", x.forget(15), 1);
        due.is("0 is still", x.now(1), 1);
        due.is("not any more", x.forget(15), 0);
        due.is("it was", x.forget(0), 1);
        due.is("none is", x.now(1), 0);
        x.rumour(0, 15);
        due.is("those of it may come in", x.comeIn(0), 0);
    }

    @Says(promise = 13, words = "BEYOND.")
    static void forgetOfNoEvent(RumourBeds x, Due due) {
        x.comesTrue(1);
        due.bounds(x, "event", x::forget, 0, 15);
        due.is("event 33, which would wrap around to 1", x.forget(33), Due.BEYOND);
        due.is("1 is true", x.now(1), 2);
    }

    @Says(promise = 14, words = "n DAYS go (1 to 60): how many RUMOURS there are then.")
    static void daysGo(RumourBeds x, Due due) {
        due.is("one, of none", x.days(1), 0);
        due.is("sixty, of none", x.days(60), 0);
        due.is("day", x.now(0), 61);
        x.house(3, 0, 2);
        Towns.lodge(x, 2, 1, 3);
        Towns.lodge(x, 2, 1, 3);
        due.is("and a third", x.days(1), 3);
        due.is("and one more each day", x.days(2), 5);
        due.is("the larder is eaten from for days", x.houseOf(3, 1), 44);
        due.is("ages", x.of(0, 3), 3);
    }

    @Says(promise = 14, words = "BEYOND.")
    static void noSuchDays(RumourBeds x, Due due) {
        Towns.lodge(x, 0, 1, 0);
        due.bounds(x, "n", x::days, 1, 60);
        due.is("days", x.now(0), 61);
    }

    @Says(promise = 14, words = "STATE: DAY would be above 9999.")
    static void dayWouldBeAboveTheLast(RumourBeds x, Due due) {
        Towns.toTheEndBut(x, 39);
        due.is("day", x.now(0), 9960);
        due.is("60 days", x.days(60), Due.STATE);
        due.is("40 days", x.days(40), Due.STATE);
        due.is("day stays", x.now(0), 9960);
        due.is("39 days", x.days(39), 0);
        due.is("the last day", x.now(0), 9999);
        due.is("one more", x.days(1), Due.STATE);
        due.is("day stays", x.now(0), 9999);
        due.is("counted", x.status(4), 3);
    }

    @Says(promise = 15, words = "What 0 DAY,")
    static void nowDay(RumourBeds x, Due due) {
        due.is("day", x.now(0), 0);
        x.days(17);
        due.is("day", x.now(0), 17);
    }

    @Says(promise = 15, words = "1 TRUE,")
    static void nowTrue(RumourBeds x, Due due) {
        due.is("none", x.now(1), 0);
        x.comesTrue(3);
        x.comesTrue(11);
        due.is("3 and 11", x.now(1), 8 + 2048);
    }

    @Says(promise = 15, words = "2 those on the ROAD, as a set,")
    static void nowRoad(RumourBeds x, Due due) {
        due.is("nobody", x.now(2), 0);
        Towns.fill(x, 10, 1);
        due.is("all", x.now(2), 1023);
        x.comeIn(4);
        due.is("all but 4", x.now(2), 1023 - 16);
        x.days(1);
        due.is("two have no bed", x.now(2), 256 + 512);
    }

    @Says(promise = 15, words = "3 BULK of all together,")
    static void nowBulk(RumourBeds x, Due due) {
        due.is("none", x.now(3), 0);
        for (int r = 0; r < 10; r++) {
            Towns.one(x, 0, 99, 0);
        }
        due.is("the most", x.now(3), 990);
        x.comeIn(3);
        x.set(3, 2, 0);
        due.is("in a house or not", x.now(3), 891);
    }

    @Says(promise = 15, words = "4 LARDERS together,")
    static void nowLarders(RumourBeds x, Due due) {
        due.is("at first", x.now(4), 400);
        for (int h = 0; h < 8; h++) {
            x.house(h, 1, 999);
        }
        due.is("the most", x.now(4), 7992);
        x.house(7, 1, 0);
        due.is("one is empty", x.now(4), 6993);
    }

    @Says(promise = 15, words = "5 BEDS that are free,")
    static void nowFreeBeds(RumourBeds x, Due due) {
        due.is("at first", x.now(5), 8);
        for (int h = 0; h < 8; h++) {
            x.house(h, 0, 3);
        }
        due.is("the most", x.now(5), 24);
        Towns.lodge(x, 0, 1, 2);
        Towns.lodge(x, 0, 2, 2);
        due.is("but two", x.now(5), 22);
        x.house(2, 0, 2);
        due.is("none in 2", x.now(5), 21);
        x.house(2, 0, 0);
        due.is("none in 2, and not fewer, though more lodge there than beds", x.now(5), 21);
        Towns.closeAllBut(x, 8);
        due.is("none", x.now(5), 0);
    }

    @Says(promise = 15, words = "6 what all in HOUSES EAT.")
    static void nowEaten(RumourBeds x, Due due) {
        due.is("nobody eats", x.now(6), 0);
        Towns.one(x, 4, 99, 0);
        due.is("one on the road doesn't", x.now(6), 0);
        x.comeIn(0);
        due.is("it is in 0", x.now(6), 23);
        Towns.lodge(x, 0, 1, 7);
        due.is("and one in 7", x.now(6), 25);
        x.house(7, 1, 0);
        due.is("whatever there is to eat", x.now(6), 25);
    }

    @Says(promise = 15, words = "BEYOND.")
    static void nowOfNoWhat(RumourBeds x, Due due) {
        due.bounds(x, "what", x::now, 0, 6);
    }
}
