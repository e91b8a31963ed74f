/** Promises 21 to 28: fewest, least, best, lean, leanFor, kind, host, beds. */
public final class BestTest {
    public static void main(String[] args) {
        Sentences.run(BestTest.class);
    }

    @Says(promise = 21, words = "The fewest times that one must be IMPROVED by 1, one behind the other, now, to be in a HOUSE")
    static void fewestTimes(RumourBeds x, Due due) {
        Towns.lodge(x, 0, 1, 5);
        due.is("the next", x.fewest(0, 6), 1);
        due.is("round the street", x.fewest(0, 1), 4);
        x.house(7, 0, 0);
        due.is("past 7, which has no bed", x.fewest(0, 1), 3);
        due.is("it stays where it is", x.of(0, 4), 5);
        due.is("it isn't improved", x.of(0, 2), 10);
    }

    @Says(promise = 21, words = "The fewest times that one must be IMPROVED by 1, one behind the other, now, to be in a HOUSE")
    static void fewestTimesByOne(RumourBeds x, Due due) {
        Towns.lodge(x, 1, 1, 0);
        x.house(2, 2, 2);
        x.set(0, 2, 17);
        due.is("19 when it comes to 2", x.fewest(0, 2), 2);
        x.set(0, 2, 18);
        due.is("20 when it would come to 2", x.fewest(0, 2), Due.NONE);
        due.is("which it passes by", x.fewest(0, 3), 2);
        x.set(0, 2, 99);
        due.is("at 99 it is moved still", x.fewest(0, 3), 2);
    }

    @Says(promise = 21, words = "The fewest times that one must be IMPROVED by 1, one behind the other, now, to be in a HOUSE")
    static void fewestTimesOfOneOfATrueEvent(RumourBeds x, Due due) {
        Towns.lodge(x, 0, 1, 5);
        x.comesTrue(2);
        x.set(0, 1, 2);
        due.is("being improved is no coming in", x.fewest(0, 6), 1);
    }

    /** Each time it goes on along the street, so that more than seven times never help. */
    @Says(promise = 21, words = "(0 to 40).")
    static void noughtToFortyTimes(RumourBeds x, Due due) {
        Towns.lodge(x, 0, 1, 5);
        due.is("its own", x.fewest(0, 5), 0);
        x.house(5, 0, 0);
        due.is("its own, though it could not come there again", x.fewest(0, 5), 0);
        due.is("the last behind it", x.fewest(0, 4), 7);
    }

    @Says(promise = 21, words = "BEYOND.")
    static void fewestOfNoRumour(RumourBeds x, Due due) {
        Towns.lodge(x, 0, 1, 5);
        Towns.lodge(x, 0, 1, 6);
        due.bounds(x, "rumour", r -> x.fewest(r, 5), 0, 1);
    }

    @Says(promise = 21, words = "BEYOND.")
    static void fewestToNoHouse(RumourBeds x, Due due) {
        Towns.lodge(x, 0, 1, 5);
        due.bounds(x, "house", h -> x.fewest(0, h), 0, 7);
    }

    @Says(promise = 21, words = "STATE: it is on the ROAD.")
    static void fewestOnTheRoad(RumourBeds x, Due due) {
        x.rumour(0, 1);
        due.is("on the road", x.fewest(0, 0), Due.STATE);
        due.is("counted", x.status(4), 1);
    }

    @Says(promise = 21, words = "NONE.")
    static void fewestOfNone(RumourBeds x, Due due) {
        Towns.lodge(x, 0, 1, 5);
        x.house(6, 0, 0);
        due.is("6 has no bed", x.fewest(0, 6), Due.NONE);
        x.house(7, 2, 2);
        due.is("7 leans not so far", x.fewest(0, 7), Due.NONE);
        Towns.closeAllBut(x, 8);
        due.is("nobody has a bed", x.fewest(0, 0), Due.NONE);
        due.is("counted", x.status(3), 3);
    }

    @Says(promise = 22, words = "The least v (1 to 20) by which, IMPROVED once, one is in another HOUSE then.")
    static void leastV(RumourBeds x, Due due) {
        Towns.lodge(x, 1, 1, 0);
        due.is("by 1", x.least(0), 1);
        due.is("it stays where it is", x.of(0, 4), 0);
        due.is("it isn't improved", x.of(0, 2), 10);
        Towns.closeAllBut(x, 7);
        due.is("as far as can be", x.least(0), 1);
        x.set(0, 2, 99);
        due.is("at 99 by 1, too", x.least(0), 1);
    }

    @Says(promise = 22, words = "BEYOND.")
    static void leastOfNoRumour(RumourBeds x, Due due) {
        Towns.lodge(x, 0, 1, 5);
        Towns.lodge(x, 0, 1, 6);
        due.bounds(x, "rumour", x::least, 0, 1);
    }

    @Says(promise = 22, words = "STATE: it is on the ROAD.")
    static void leastOnTheRoad(RumourBeds x, Due due) {
        x.rumour(0, 1);
        due.is("on the road", x.least(0), Due.STATE);
        due.is("counted", x.status(4), 1);
    }

    @Says(promise = 22, words = "NONE.")
    static void leastOfNone(RumourBeds x, Due due) {
        Towns.lodge(x, 1, 1, 0);
        Towns.closeAllBut(x, 0);
        due.is("nobody has a bed", x.least(0), Due.NONE);
        x.house(0, 0, 3);
        due.is("nobody but its own", x.least(0), Due.NONE);
        x.house(1, 0, 1);
        x.house(1, 2, 2);
        x.set(0, 2, 19);
        due.is("improved by 1 it is too big for 1", x.least(0), Due.NONE);
        x.set(0, 2, 18);
        due.is("just not", x.least(0), 1);
        due.is("counted", x.status(3), 3);
    }

    @Says(promise = 23, words = "The EVENT that, coming TRUE now, leaves most in LARDERS together")
    static void bestEvent(RumourBeds x, Due due) {
        Towns.lodge(x, 0, 9, 0);
        Towns.lodge(x, 1, 15, 1);
        due.is("the big one's", x.best(1), 15);
        String before = Towns.told(x);
        x.set(1, 2, 0);
        x.set(0, 2, 99);
        due.is("the plain one's", x.best(1), 9);
        x.set(1, 2, 10);
        x.set(0, 2, 10);
        due.isAsBefore("best", x, before);
    }

    @Says(promise = 23, words = "The EVENT that, coming TRUE now, leaves most in LARDERS together")
    static void bestEventTogether(RumourBeds x, Due due) {
        Towns.lodge(x, 0, 3, 0);
        Towns.lodge(x, 0, 3, 1);
        Towns.lodge(x, 1, 2, 2);
        x.set(2, 2, 0);
        due.is("two of it eat 4, the other one 2", x.best(1), 3);
        Towns.lodge(x, 4, 2, 3);
        due.is("now the others eat 9", x.best(1), 2);
    }

    @Says(promise = 23, words = "The EVENT that, coming TRUE now, leaves most in LARDERS together")
    static void bestEventThatIsNotTrueYet(RumourBeds x, Due due) {
        Towns.lodge(x, 1, 5, 0);
        Towns.lodge(x, 0, 6, 1);
        x.comesTrue(5);
        due.is("5 is true already", x.best(1), 6);
        due.is("6 is not true for all that", x.now(1), 32);
    }

    @Says(promise = 23, words = "The EVENT that, coming TRUE now, leaves most in LARDERS together")
    static void bestEventKeepsThoseOnTheRoadOut(RumourBeds x, Due due) {
        x.rumour(1, 8);
        due.is("it would come in on 1, and eat on 2", x.best(2), 8);
        due.is("on 1 it eats nothing", x.best(1), 0);
    }

    @Says(promise = 23, words = "ON n DAYS (0 to 20);")
    static void bestOnNoughtToTwentyDays(RumourBeds x, Due due) {
        Towns.lodge(x, 2, 4, 0);
        due.is("none has eaten on 0", x.best(0), 0);
        due.is("20", x.best(20), 4);
        due.is("21", x.best(21), Due.BEYOND);
        due.is("-1", x.best(-1), Due.BEYOND);
    }

    @Says(promise = 23, words = "ON n DAYS (0 to 20);")
    static void bestOnTheTwentiethDay(RumourBeds x, Due due) {
        // Two dull ones eat 1 a day, but on the 20th one of them finds nothing.
        Towns.lodge(x, 2, 9, 0);
        Towns.lodge(x, 2, 5, 1);
        x.house(1, 1, 19);
        due.is("19: both are as good", x.best(19), 5);
        due.is("20: the one that still eats", x.best(20), 9);
    }

    @Says(promise = 23, words = "of several the least.")
    static void bestOfSeveral(RumourBeds x, Due due) {
        due.is("nobody eats", x.best(20), 0);
        Towns.lodge(x, 0, 12, 0);
        Towns.lodge(x, 0, 9, 1);
        due.is("of 9 and 12", x.best(1), 9);
        x.comesTrue(9);
        x.comesTrue(12);
        due.is("nobody is left that could leave", x.best(5), 0);
    }

    @Says(promise = 23, words = "BEYOND.")
    static void bestOnNoDays(RumourBeds x, Due due) {
        Towns.lodge(x, 0, 12, 0);
        due.bounds(x, "n", x::best, 0, 20);
    }

    @Says(promise = 24, words = "The least LEANS (0 to 9) with which a HOUSE TAKES one.")
    static void leastLeans(RumourBeds x, Due due) {
        int[] needs = {3, 1, 6, 4, 0, 7};
        for (int kind = 0; kind < 6; kind++) {
            x.rumour(kind, 0);
            due.is("for kind " + kind, x.lean(7, kind), needs[kind]);
        }
        x.set(1, 2, 20);
        due.is("for a big one of 20", x.lean(7, 1), 3);
        x.house(7, 2, 0);
        due.is("however far it leans", x.lean(7, 5), 7);
        due.is("it leans as before", x.houseOf(7, 2), 0);
        x.comesTrue(0);
        due.is("one of a true event", x.lean(7, 5), 7);
        x.forget(0);
        Towns.closeAllBut(x, 3);
        x.comeIn(0);
        x.house(3, 0, 2);
        due.is("one that lodges there, beside another bed", x.lean(3, 0), 3);
    }

    @Says(promise = 24, words = "BEYOND.")
    static void leanOfNoHouse(RumourBeds x, Due due) {
        x.rumour(0, 0);
        due.bounds(x, "house", h -> x.lean(h, 0), 0, 7);
    }

    @Says(promise = 24, words = "BEYOND.")
    static void leanForNoRumour(RumourBeds x, Due due) {
        Towns.fill(x, 2, 0);
        due.bounds(x, "rumour", r -> x.lean(0, r), 0, 1);
    }

    @Says(promise = 24, words = "NONE: it has no BED free.")
    static void leanWithoutABed(RumourBeds x, Due due) {
        x.rumour(0, 0);
        x.house(3, 0, 0);
        due.is("no bed", x.lean(3, 0), Due.NONE);
        x.comeIn(0);
        x.rumour(4, 0);
        due.is("no bed free", x.lean(0, 1), Due.NONE);
        due.is("nor for who has it", x.lean(0, 0), Due.NONE);
        x.house(0, 0, 2);
        due.is("one free", x.lean(0, 1), 0);
        x.house(0, 0, 0);
        due.is("fewer beds than lodge there", x.lean(0, 1), Due.NONE);
        due.is("counted", x.status(3), 4);
    }

    /** House 0 alone has a bed; one of wells and a royal one are on the road. */
    private static void wellsAndRoyal(RumourBeds x) {
        Towns.closeAllBut(x, 0);
        x.rumour(5, 1);
        x.rumour(4, 2);
    }

    @Says(promise = 25, words = "The LEANS (0 to 9) of a HOUSE with which its LARDER has most")
    static void leansForMost(RumourBeds x, Due due) {
        wellsAndRoyal(x);
        due.is("with 7 one of wells keeps the bed from the royal one", x.leanFor(0, 5), 7);
        due.is("it leans as before", x.houseOf(0, 2), 3);
        x.house(1, 0, 1);
        x.house(0, 2, 8);
        due.is("with 9 it has the one of wells, and not 0", x.leanFor(1, 5), 9);
        x.turn(1, 2);
        due.is("with 0 it has nobody", x.leanFor(1, 5), 0);
    }

    @Says(promise = 25, words = "ON n DAYS (0 to 20);")
    static void leansOnNoughtToTwentyDays(RumourBeds x, Due due) {
        wellsAndRoyal(x);
        due.is("0: none has come in", x.leanFor(0, 0), 0);
        due.is("1: none has eaten", x.leanFor(0, 1), 0);
        due.is("2", x.leanFor(0, 2), 7);
        due.is("20", x.leanFor(0, 20), 7);
        due.is("21", x.leanFor(0, 21), Due.BEYOND);
        due.is("-1", x.leanFor(0, -1), Due.BEYOND);
    }

    @Says(promise = 25, words = "of several the least.")
    static void leansOfSeveral(RumourBeds x, Due due) {
        due.is("nobody comes", x.leanFor(7, 20), 0);
        Towns.lodge(x, 1, 1, 7);
        due.is("who lodges there stays, however far it leans", x.leanFor(7, 3), 0);
        x.rumour(2, 2);
        Towns.closeAllBut(x, 6);
        due.is("0 to 5 don't take the dull one", x.leanFor(6, 3), 0);
    }

    @Says(promise = 25, words = "BEYOND.")
    static void leansOfNoHouse(RumourBeds x, Due due) {
        due.bounds(x, "house", h -> x.leanFor(h, 3), 0, 7);
    }

    @Says(promise = 25, words = "BEYOND.")
    static void leansOnNoDays(RumourBeds x, Due due) {
        Towns.lodge(x, 1, 1, 7);
        due.bounds(x, "n", n -> x.leanFor(7, n), 0, 20);
    }

    @Says(promise = 26, words = "The KIND as one of which a RUMOUR EATS least now;")
    static void kindThatEatsLeast(RumourBeds x, Due due) {
        Towns.one(x, 0, 10, 0);
        due.is("wells", x.kind(0), 5);
        x.set(0, 3, 19);
        due.is("a shy one of 19 days eats 1", x.kind(0), 5);
        x.set(0, 2, 99);
        x.set(0, 3, 99);
        due.is("a shy one of 99 days, of bulk 99, eats 1", x.kind(0), 5);
        due.is("it is of its own kind still", x.of(0, 0), 0);
        x.turn(0, 4);
        due.is("whatever it is", x.kind(0), 5);
    }

    @Says(promise = 26, words = "of several the least.")
    static void kindOfSeveral(RumourBeds x, Due due) {
        Towns.one(x, 5, 10, 20);
        due.is("shy and wells eat 0", x.kind(0), 3);
        x.set(0, 2, 0);
        x.set(0, 3, 10);
        due.is("shy and wells eat 0", x.kind(0), 3);
        x.set(0, 2, 99);
        x.set(0, 3, 100);
        due.is("shy and wells eat 0", x.kind(0), 3);
    }

    @Says(promise = 26, words = "BEYOND.")
    static void kindOfNoRumour(RumourBeds x, Due due) {
        due.is("when there is none", x.kind(0), Due.BEYOND);
        Towns.fill(x, 2, 0);
        due.bounds(x, "rumour", x::kind, 0, 1);
    }

    @Says(promise = 27, words = "The HOUSE into which one would COME IN now.")
    static void hostNow(RumourBeds x, Due due) {
        x.rumour(0, 1);
        due.is("of several the least", x.host(0), 0);
        x.house(6, 2, 5);
        x.house(7, 2, 5);
        due.is("who leans furthest", x.host(0), 6);
        due.is("it is on the road still", x.of(0, 4), -1);
        due.is("there it comes in", x.comeIn(0), 6);
    }

    /** No finding is named for one that lodges: it is told where it would come in from where it is. */
    @Says(promise = 27, words = "The HOUSE into which one would COME IN now.")
    static void hostOfOneThatLodges(RumourBeds x, Due due) {
        Towns.lodge(x, 0, 1, 6);
        due.is("in 6", x.host(0), 0);
        x.house(6, 2, 5);
        due.is("its own bed is taken", x.host(0), 0);
        x.house(6, 0, 2);
        due.is("a second one isn't", x.host(0), 6);
    }

    @Says(promise = 27, words = "BEYOND.")
    static void hostOfNoRumour(RumourBeds x, Due due) {
        due.is("when there is none", x.host(0), Due.BEYOND);
        Towns.fill(x, 2, 0);
        due.bounds(x, "rumour", x::host, 0, 1);
    }

    @Says(promise = 27, words = "NONE (also if its EVENT is TRUE).")
    static void hostOfNone(RumourBeds x, Due due) {
        x.rumour(5, 2);
        Towns.allLean(x, 6);
        due.is("none leans so far", x.host(0), Due.NONE);
        Towns.allLean(x, 7);
        due.is("all do", x.host(0), 0);
        Towns.closeAllBut(x, 8);
        due.is("none has a bed", x.host(0), Due.NONE);
        due.is("counted", x.status(3), 2);
    }

    @Says(promise = 27, words = "NONE (also if its EVENT is TRUE).")
    static void hostOfATrueEvent(RumourBeds x, Due due) {
        x.rumour(0, 2);
        x.comesTrue(2);
        due.is("true", x.host(0), Due.NONE);
        x.forget(2);
        x.comesTrue(3);
        due.is("another is true", x.host(0), 0);
        due.is("counted", x.status(3), 1);
    }

    @Says(promise = 28, words = "The least number of BEDS (0 to 3) of a HOUSE with which,")
    static void leastBeds(RumourBeds x, Due due) {
        Towns.closeAllBut(x, 4);
        for (int many = 0; many <= 3; many++) {
            Towns.fill(x, many, many);
            due.is("for " + many, x.beds(4, 1), many);
        }
        due.is("as many beds as before", x.houseOf(4, 0), 1);
        Towns.fill(x, 4, 4);
        due.is("for four", x.beds(4, 1), Due.NONE);
        x.house(5, 0, 1);
        due.is("when another house takes one", x.beds(4, 1), 3);
    }

    @Says(promise = 28, words = "ON n DAYS (0 to 20),")
    static void bedsOnNoughtToTwentyDays(RumourBeds x, Due due) {
        Towns.closeAllBut(x, 4);
        x.rumour(0, 1);
        due.is("0: it is on the road now, however many", x.beds(4, 0), Due.NONE);
        due.is("1", x.beds(4, 1), 1);
        due.is("20", x.beds(4, 20), 1);
        due.is("21", x.beds(4, 21), Due.BEYOND);
        due.is("-1", x.beds(4, -1), Due.BEYOND);
    }

    @Says(promise = 28, words = "nobody is on the ROAD.")
    static void nobodyIsOnTheRoad(RumourBeds x, Due due) {
        due.is("there is nobody", x.beds(4, 20), 0);
        Towns.lodge(x, 0, 1, 4);
        Towns.closeAllBut(x, 4);
        due.is("who lodges there stays without a bed", x.beds(4, 0), 0);
        due.is("for days", x.beds(4, 20), 0);
        x.house(4, 1, 2);
        due.is("put out on 2, it needs one then", x.beds(4, 2), 1);
        x.comesTrue(1);
        due.is("one of a true event is on the road", x.beds(4, 2), Due.NONE);
    }

    @Says(promise = 28, words = "BEYOND.")
    static void bedsOfNoHouse(RumourBeds x, Due due) {
        due.bounds(x, "house", h -> x.beds(h, 3), 0, 7);
    }

    @Says(promise = 28, words = "BEYOND.")
    static void bedsOnNoDays(RumourBeds x, Due due) {
        due.bounds(x, "n", n -> x.beds(4, n), 0, 20);
    }

    @Says(promise = 28, words = "NONE.")
    static void noNumberOfBeds(RumourBeds x, Due due) {
        x.rumour(5, 1);
        due.is("none leans so far", x.beds(4, 3), Due.NONE);
        x.house(4, 2, 7);
        due.is("4 does", x.beds(4, 3), 1);
        due.is("so it helps not to ask 5", x.beds(5, 3), 0);
        due.is("counted", x.status(3), 1);
    }
}
