/** The terms of a day: who eats, who is put out, who grows, of which two there is a third, who comes in. */
public final class DayTest {
    public static void main(String[] args) {
        Sentences.run(DayTest.class);
    }

    @Says(words = "A DAY goes: (1) RUMOURS by numbers, those in a HOUSE: what it EATS goes from the LARDER;")
    static void whatItEatsGoes(RumourBeds x, Due due) {
        Towns.lodge(x, 4, 1, 3);
        x.set(0, 2, 99);
        Towns.lodge(x, 2, 2, 5);
        x.rumour(5, 3);
        x.days(1);
        due.is("23 of 50 eaten", x.houseOf(3, 1), 27);
        due.is("1 of 50 eaten", x.houseOf(5, 1), 49);
        due.is("one on the road eats nowhere", x.now(4), 27 + 49 + 6 * 50);
    }

    @Says(words = "A DAY goes: (1) RUMOURS by numbers, those in a HOUSE: what it EATS goes from the LARDER;")
    static void theyEatByNumbers(RumourBeds x, Due due) {
        Towns.closeAllBut(x, 3);
        x.house(3, 0, 2);
        x.rumour(0, 1);
        x.rumour(0, 2);
        x.comeIn(1);
        x.comeIn(0);
        x.house(3, 1, 3);
        x.house(3, 2, 0);
        x.days(1);
        due.is("the first ate 2 of 3", x.of(0, 4), 3);
        due.is("the second found 1, though it came first", x.of(1, 4), -1);
        due.is("nothing is left", x.houseOf(3, 1), 0);
    }

    @Says(words = "if there is less, that is 0 then, and it is on the ROAD;")
    static void thereIsLess(RumourBeds x, Due due) {
        Towns.closeAllBut(x, 6);
        Towns.lodge(x, 0, 1, 6);
        x.house(6, 1, 1);
        x.house(6, 2, 0);
        x.days(1);
        due.is("the little is gone", x.houseOf(6, 1), 0);
        due.is("it is out", x.of(0, 4), -1);
        due.is("its bed is free", x.now(5), 1);
    }

    @Says(words = "if there is less, that is 0 then, and it is on the ROAD;")
    static void thereIsJustEnough(RumourBeds x, Due due) {
        Towns.closeAllBut(x, 6);
        Towns.lodge(x, 0, 1, 6);
        x.house(6, 1, 2);
        x.house(6, 2, 0);
        x.days(1);
        due.is("nothing is left", x.houseOf(6, 1), 0);
        due.is("it stays", x.of(0, 4), 6);
        due.is("and grew", x.of(0, 2), 11);
        x.days(1);
        due.is("nothing is still less than 2", x.of(0, 4), -1);
    }

    @Says(words = "if there is less, that is 0 then, and it is on the ROAD;")
    static void nothingIsNotLessThanNothing(RumourBeds x, Due due) {
        Towns.closeAllBut(x, 6);
        Towns.lodge(x, 5, 1, 6);
        x.house(6, 1, 0);
        x.house(6, 2, 0);
        x.days(60);
        due.is("one of wells stays with an empty larder", x.of(0, 4), 6);
        x.turn(0, 2);
        x.days(1);
        due.is("a dull one doesn't", x.of(0, 4), -1);
        due.is("the larder isn't below 0", x.houseOf(6, 1), 0);
    }

    @Says(words = "else BULK is what it GROWS more (99 at most).")
    static void itGrows(RumourBeds x, Due due) {
        Towns.lodge(x, 1, 1, 0);
        x.set(0, 2, 19);
        x.days(1);
        due.is("eaten as it was before it grew", x.houseOf(0, 1), 46);
        due.is("a tenth of 19, and 1 more", x.of(0, 2), 21);
        Towns.lodge(x, 2, 2, 1);
        x.days(1);
        due.is("dull ones don't", x.of(1, 2), 10);
    }

    @Says(words = "else BULK is what it GROWS more (99 at most).")
    static void itGrowsToNinetyNine(RumourBeds x, Due due) {
        Towns.lodge(x, 0, 1, 0);
        x.set(0, 2, 98);
        Towns.lodge(x, 1, 2, 1);
        x.set(1, 2, 90);
        x.days(1);
        due.is("98 and 1", x.of(0, 2), 99);
        due.is("90 and 10", x.of(1, 2), 99);
        x.days(1);
        due.is("99 stays", x.of(0, 2), 99);
        due.is("99 stays", x.of(1, 2), 99);
    }

    @Says(words = "else BULK is what it GROWS more (99 at most).")
    static void oneThatFindsLessGrowsNot(RumourBeds x, Due due) {
        Towns.lodge(x, 0, 1, 0);
        x.house(0, 1, 1);
        Towns.one(x, 5, 44, 0);
        x.turn(1, 1);
        x.comesTrue(0);
        x.days(1);
        due.is("put out, and in again", x.of(0, 4), 0);
        due.is("not grown", x.of(0, 2), 10);
        due.is("nor one on the road", x.of(1, 2), 44);
    }

    @Says(words = "else BULK is what it GROWS more (99 at most).")
    static void shyOnesGrowByTheAgeBefore(RumourBeds x, Due due) {
        Towns.lodge(x, 3, 1, 0);
        x.days(1);
        due.is("at age 0", x.of(0, 2), 11);
        x.days(1);
        due.is("not at age 1", x.of(0, 2), 11);
        x.days(1);
        due.is("at age 2", x.of(0, 2), 12);
    }

    @Says(words = "AGE of all is 1 more.")
    static void allAreOlder(RumourBeds x, Due due) {
        Towns.lodge(x, 0, 1, 0);
        Towns.lodge(x, 0, 2, 1);
        x.house(1, 1, 0);
        x.rumour(5, 3);
        x.rumour(5, 4);
        x.comesTrue(4);
        x.set(2, 3, 999);
        x.days(1);
        due.is("one in a house", x.of(0, 3), 1);
        due.is("one put out", x.of(1, 3), 1);
        due.is("one on the road, held to 999", x.of(2, 3), 999);
        due.is("one of a true event", x.of(3, 3), 1);
    }

    /** Two of an event in a house with two beds. */
    private static void pair(RumourBeds x, int kind, int event, int house) {
        x.house(house, 0, 2);
        Towns.lodge(x, kind, event, house);
        Towns.lodge(x, kind, event, house);
    }

    @Says(words = "(2) HOUSES by numbers:")
    static void thirdsByHouses(RumourBeds x, Due due) {
        pair(x, 2, 1, 5);
        pair(x, 2, 9, 2);
        due.is("two more", x.days(1), 6);
        due.is("the first of house 2", x.of(4, 1), 9);
        due.is("the second of house 5", x.of(5, 1), 1);
    }

    @Says(words = "(2) HOUSES by numbers:")
    static void theFirstHouseHasTheLastPlace(RumourBeds x, Due due) {
        pair(x, 2, 1, 7);
        pair(x, 2, 9, 0);
        Towns.fill(x, 9, 3);
        due.is("one more", x.days(1), 10);
        due.is("of house 0", x.of(9, 1), 9);
    }

    @Says(words = "the least EVENT of which two or more lodge there, if there is any:")
    static void theLeastEventOfTwo(RumourBeds x, Due due) {
        x.house(4, 0, 3);
        Towns.lodge(x, 2, 5, 4);
        Towns.lodge(x, 2, 2, 4);
        Towns.lodge(x, 2, 5, 4);
        due.is("a third", x.days(1), 4);
        due.is("not of the least event, of which there is one", x.of(3, 1), 5);
    }

    @Says(words = "the least EVENT of which two or more lodge there, if there is any:")
    static void thirdsOfTheEdgesOfEvents(RumourBeds x, Due due) {
        pair(x, 2, 0, 3);
        pair(x, 2, 15, 4);
        due.is("two thirds", x.days(1), 6);
        due.is("of event 0", x.of(4, 1), 0);
        due.is("of event 15", x.of(5, 1), 15);
    }

    @Says(words = "the least EVENT of which two or more lodge there, if there is any:")
    static void oneThirdOfThree(RumourBeds x, Due due) {
        x.house(4, 0, 3);
        for (int i = 0; i < 3; i++) {
            Towns.lodge(x, 2, 7, 4);
        }
        due.is("three make one more", x.days(1), 4);
    }

    @Says(words = "the least EVENT of which two or more lodge there, if there is any:")
    static void noTwoOfAnEvent(RumourBeds x, Due due) {
        x.house(4, 0, 3);
        for (int e = 0; e < 3; e++) {
            Towns.lodge(x, 2, e, 4);
        }
        Towns.lodge(x, 2, 0, 5);
        Towns.lodge(x, 2, 1, 6);
        due.is("in one house of several events, in several of one", x.days(9), 5);
    }

    @Says(words = "if none of it is on the ROAD,")
    static void oneOfItIsOnTheRoad(RumourBeds x, Due due) {
        x.rumour(5, 6);
        pair(x, 2, 6, 3);
        due.is("the first of all is on the road", x.days(3), 3);
        x.set(0, 1, 5);
        due.is("now it is of another event", x.days(1), 4);
    }

    @Says(words = "if none of it is on the ROAD,")
    static void theLastOfAllIsOnTheRoad(RumourBeds x, Due due) {
        pair(x, 2, 6, 3);
        x.rumour(5, 6);
        due.is("the last of all is on the road", x.days(3), 3);
    }

    @Says(words = "if none of it is on the ROAD,")
    static void oneWasPutOutThatDay(RumourBeds x, Due due) {
        x.house(3, 0, 3);
        for (int i = 0; i < 3; i++) {
            Towns.lodge(x, 2, 6, 3);
        }
        x.house(3, 1, 2);
        due.is("two are left, the last is out", x.days(1), 3);
        due.is("it is on the road", x.of(2, 4), -1);
    }

    @Says(words = "if none of it is on the ROAD,")
    static void theFirstHousesThirdIsOnTheRoad(RumourBeds x, Due due) {
        pair(x, 2, 6, 3);
        pair(x, 2, 6, 5);
        due.is("two pairs of an event make one more", x.days(1), 5);
    }

    @Says(words = "if none of it is on the ROAD,")
    static void aThirdOfATrueEvent(RumourBeds x, Due due) {
        x.comesTrue(6);
        pair(x, 2, 1, 3);
        x.set(0, 1, 6);
        x.set(1, 1, 6);
        due.is("they lodge there, and none is on the road", x.days(1), 3);
        due.is("the third stays on the road", x.of(2, 4), -1);
        due.is("so there is no other", x.days(5), 3);
    }

    @Says(words = "and there are fewer than 10 RUMOURS:")
    static void fewerThanTen(RumourBeds x, Due due) {
        pair(x, 2, 6, 3);
        Towns.fill(x, 8, 5);
        due.is("eight and one", x.days(1), 9);
        due.is("nine and one", x.many(1), 10);
        x.rumour(0, 5);
        due.is("ten and none", x.days(1), 10);
        due.is("nor later", x.days(60), 10);
        due.is("the last is no third", x.of(9, 1), 5);
    }

    @Says(words = "a THIRD, a new one of KIND 0, of that EVENT,")
    static void theThirdIsPlain(RumourBeds x, Due due) {
        pair(x, 4, 6, 3);
        due.is("a third", x.days(1), 3);
        due.is("of kind 0", x.of(2, 0), 0);
        due.is("of that event", x.of(2, 1), 6);
    }

    @Says(words = "on the ROAD, AGE 0,")
    static void theThirdIsNew(RumourBeds x, Due due) {
        pair(x, 2, 6, 3);
        x.set(0, 3, 40);
        x.set(1, 3, 50);
        Towns.allLean(x, 0);
        due.is("a third", x.days(1), 3);
        due.is("none takes it", x.of(2, 4), -1);
        due.is("not a day old", x.of(2, 3), 0);
        x.days(1);
        due.is("then a day", x.of(2, 3), 1);
    }

    @Says(words = "of BULK half of that of the two least of them (by numbers) together.")
    static void halfOfTheTwoLeastByNumbers(RumourBeds x, Due due) {
        x.house(3, 0, 3);
        int[] bulks = {80, 31, 20};
        for (int i = 0; i < 3; i++) {
            x.rumour(2, 6);
            x.set(i, 2, bulks[i]);
        }
        x.house(3, 2, 9);
        x.comeIn(2);
        x.comeIn(1);
        x.comeIn(0);
        x.days(1);
        due.is("half of 111, not of 51", x.of(3, 2), 55);
    }

    @Says(words = "of BULK half of that of the two least of them (by numbers) together.")
    static void notOfOtherEvents(RumourBeds x, Due due) {
        for (int other = 5; other <= 7; other += 2) {
            RumourBeds y = new RumourBeds();
            y.house(3, 0, 3);
            Towns.lodge(y, 2, other, 3);
            Towns.lodge(y, 2, 6, 3);
            Towns.lodge(y, 2, 6, 3);
            y.set(0, 2, 90);
            y.set(1, 2, 20);
            y.set(2, 2, 31);
            y.days(1);
            due.is("half of 51, beside one of " + other, y.of(3, 2), 25);
        }
    }

    @Says(words = "of BULK half of that of the two least of them (by numbers) together.")
    static void notOfOtherHouses(RumourBeds x, Due due) {
        for (int other = 2; other <= 4; other += 2) {
            RumourBeds y = new RumourBeds();
            Towns.lodge(y, 2, 6, other);
            y.set(0, 2, 90);
            pair(y, 2, 6, 3);
            y.set(1, 2, 20);
            y.set(2, 2, 31);
            y.days(1);
            due.is("half of 51, beside one in " + other, y.of(3, 2), 25);
        }
    }

    @Says(words = "of BULK half of that of the two least of them (by numbers) together.")
    static void halfAtTheEdges(RumourBeds x, Due due) {
        pair(x, 2, 6, 3);
        x.set(0, 2, 0);
        x.set(1, 2, 1);
        pair(x, 2, 7, 4);
        x.set(2, 2, 99);
        x.set(3, 2, 99);
        x.days(1);
        due.is("half of 1", x.of(4, 2), 0);
        due.is("half of 198", x.of(5, 2), 99);
    }

    @Says(words = "of BULK half of that of the two least of them (by numbers) together.")
    static void halfOfWhatTheyHaveGrownTo(RumourBeds x, Due due) {
        pair(x, 0, 6, 3);
        x.turn(1, 1);
        x.set(1, 2, 13);
        x.days(1);
        due.is("half of 11 and 15", x.of(2, 2), 13);
    }

    @Says(words = "(3) By numbers, all on the ROAD COME IN.")
    static void theRoadComesInByNumbers(RumourBeds x, Due due) {
        for (int e = 1; e <= 3; e++) {
            x.rumour(0, e);
        }
        x.rumour(5, 4);
        x.house(2, 2, 5);
        x.house(6, 2, 4);
        x.comesTrue(2);
        x.days(1);
        due.is("the first, where one leans furthest", x.of(0, 4), 2);
        due.is("one of a true event stays out", x.of(1, 4), -1);
        due.is("the next", x.of(2, 4), 6);
        due.is("one that none takes stays out", x.of(3, 4), -1);
        due.is("none has eaten yet", x.now(4), 400);
    }

    @Says(words = "(3) By numbers, all on the ROAD COME IN.")
    static void onePutOutComesInThatDay(RumourBeds x, Due due) {
        Towns.lodge(x, 0, 1, 0);
        x.house(0, 1, 1);
        x.house(4, 2, 5);
        x.days(1);
        due.is("out, and in where one leans further", x.of(0, 4), 4);
        due.is("it ate nothing there that day", x.houseOf(4, 1), 50);
        due.is("nor grew", x.of(0, 2), 10);
    }

    @Says(words = "(3) By numbers, all on the ROAD COME IN.")
    static void theThirdComesInThatDay(RumourBeds x, Due due) {
        x.house(3, 2, 9);
        pair(x, 2, 6, 3);
        x.house(3, 0, 3);
        x.days(1);
        due.is("by the same door", x.of(2, 4), 3);
        x.days(1);
        due.is("the next one elsewhere: 3 is full", x.of(3, 4), 0);
    }

    @Says(words = "(3) By numbers, all on the ROAD COME IN.")
    static void onesOfATrueEventStayOutForDays(RumourBeds x, Due due) {
        Towns.lodge(x, 0, 6, 3);
        x.comesTrue(6);
        x.days(60);
        due.is("on the road", x.of(0, 4), -1);
        x.forget(6);
        x.days(1);
        due.is("in", x.of(0, 4), 0);
    }

    @Says(words = "DAY is 1 more.")
    static void aDayMore(RumourBeds x, Due due) {
        x.days(1);
        due.is("one", x.now(0), 1);
        Towns.lodge(x, 0, 1, 0);
        x.days(60);
        due.is("sixty more", x.now(0), 61);
    }
}
