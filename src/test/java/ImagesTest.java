/** Promises 38 to 42: image, undo, tear, count, status. */
public final class ImagesTest {
    public static void main(String[] args) {
        Sentences.run(ImagesTest.class);
    }

    /** Changes all that section 1 tells. */
    private static void changeAll(RumourBeds x) {
        for (int h = 0; h < 8; h++) {
            x.house(h, 0, 3);
            x.house(h, 1, 7);
            x.house(h, 2, 9);
        }
        x.rumour(3, 12);
        x.comeIn(x.count(0) - 1);
        x.set(0, 1, 11);
        x.set(0, 2, 77);
        x.set(0, 3, 700);
        x.turn(0, 5);
        x.comesTrue(3);
        x.forget(9);
        x.days(2);
    }

    private static void town(RumourBeds x) {
        Towns.lodge(x, 1, 3, 4);
        x.rumour(0, 9);
        x.comesTrue(9);
        x.house(5, 2, 8);
        x.days(2);
    }

    @Says(promise = 38, words = "All that section 1 tells (THE TAPE not) is kept:")
    static void allIsKept(RumourBeds x, Due due) {
        town(x);
        String before = Towns.told(x);
        x.image();
        due.isAsBefore("image", x, before);
        changeAll(x);
        x.undo();
        due.isAsBefore("undo", x, before);
        due.is("no bed is free in 4", x.takes(4, 1), 0);
        x.days(1);
        due.is("it goes on from there", x.houseOf(4, 1), 50 - 4 - 4 - 4);
    }

    @Says(promise = 38, words = "(THE TAPE not)")
    static void theTapeIsNotKept(RumourBeds x, Due due) {
        Towns.feed(x, "true");
        x.image();
        Towns.feed(x, " 1");
        x.undo();
        due.is("six bytes", x.count(1), 6);
        due.is("true 1", x.town(), 1);
        x.undo();
        due.is("none", x.count(1), 0);
    }

    @Says(promise = 38, words = "All that section 1 tells")
    static void sheetsAreNotKept(RumourBeds x, Due due) {
        x.sheet(0, 8, 2);
        x.image();
        x.write(0, 0, 5);
        x.sheet(1, 16, 1);
        x.undo();
        due.is("as it was written", x.write(0, 0, 0), 5);
        due.is("not missing", x.write(1, 0, 0), 0);
    }

    @Says(promise = 38, words = "kept: 1.")
    static void imageAnswersOne(RumourBeds x, Due due) {
        due.is("the first", x.image(), 1);
        due.is("the second", x.image(), 1);
        x.tear();
        due.is("another", x.image(), 1);
    }

    @Says(promise = 39, words = "It becomes what was kept latest (which stays):")
    static void whatWasKeptLatest(RumourBeds x, Due due) {
        x.image();
        x.days(1);
        x.image();
        x.days(1);
        x.undo();
        due.is("day 1, not 0", x.now(0), 1);
        x.days(2);
        x.undo();
        due.is("again day 1", x.now(0), 1);
    }

    @Says(promise = 39, words = "(which stays):")
    static void whatWasKeptStays(RumourBeds x, Due due) {
        town(x);
        String before = Towns.told(x);
        x.image();
        for (int again = 0; again < 3; again++) {
            changeAll(x);
            x.undo();
            due.isAsBefore("undo " + again, x, before);
        }
        due.is("it is kept still", x.tear(), 1);
    }

    @Says(promise = 39, words = "how many RUMOURS.")
    static void undoAnswersHowMany(RumourBeds x, Due due) {
        x.image();
        x.rumour(0, 0);
        due.is("none", x.undo(), 0);
        due.is("none", x.count(0), 0);
        due.is("no such one", x.of(0, 0), Due.BEYOND);
        Towns.fill(x, 10, 0);
        x.image();
        due.is("ten", x.undo(), 10);
    }

    @Says(promise = 39, words = "NONE: nothing is kept.")
    static void undoOfNothing(RumourBeds x, Due due) {
        x.days(3);
        due.is("nothing yet", x.undo(), Due.NONE);
        due.is("it stays", x.now(0), 3);
        x.image();
        x.tear();
        x.days(1);
        due.is("nothing any more", x.undo(), Due.NONE);
        due.is("it stays", x.now(0), 4);
        due.is("counted", x.status(3), 2);
    }

    @Says(promise = 40, words = "Nothing is kept:")
    static void nothingIsKept(RumourBeds x, Due due) {
        x.image();
        x.image();
        x.days(2);
        x.tear();
        due.is("neither of two", x.undo(), Due.NONE);
        due.is("it stays", x.now(0), 2);
    }

    @Says(promise = 40, words = "1 if something was, else 0.")
    static void tearAnswers(RumourBeds x, Due due) {
        due.is("nothing", x.tear(), 0);
        x.image();
        due.is("something", x.tear(), 1);
        due.is("nothing now", x.tear(), 0);
        x.image();
        x.undo();
        due.is("something, undone", x.tear(), 1);
        due.is("no finding", x.status(-1), 0);
    }

    @Says(promise = 41, words = "0 RUMOURS,")
    static void countRumours(RumourBeds x, Due due) {
        due.is("none", x.count(0), 0);
        Towns.fill(x, 10, 0);
        due.is("ten", x.count(0), 10);
    }

    @Says(promise = 41, words = "1 bytes of THE TAPE,")
    static void countBytes(RumourBeds x, Due due) {
        due.is("none", x.count(1), 0);
        Towns.feed(x, "x".repeat(120));
        due.is("the most", x.count(1), 120);
        x.town();
        due.is("none", x.count(1), 0);
    }

    @Says(promise = 41, words = "2 those in HOUSES,")
    static void countInHouses(RumourBeds x, Due due) {
        due.is("none", x.count(2), 0);
        Towns.fill(x, 10, 1);
        due.is("all on the road", x.count(2), 0);
        x.comeIn(9);
        due.is("one", x.count(2), 1);
        for (int h = 0; h < 8; h++) {
            x.house(h, 0, 3);
        }
        x.days(1);
        due.is("all", x.count(2), 10);
        x.house(0, 0, 0);
        due.is("without beds, too", x.count(2), 10);
        x.comesTrue(1);
        due.is("none", x.count(2), 0);
    }

    @Says(promise = 41, words = "3 BEDS of all HOUSES.")
    static void countBeds(RumourBeds x, Due due) {
        due.is("at first", x.count(3), 8);
        for (int h = 0; h < 8; h++) {
            x.house(h, 0, 3);
        }
        due.is("the most", x.count(3), 24);
        Towns.lodge(x, 0, 1, 7);
        due.is("free or not", x.count(3), 24);
        Towns.closeAllBut(x, 8);
        due.is("none", x.count(3), 0);
    }

    @Says(promise = 41, words = "BEYOND: another what.")
    static void countOfNoWhat(RumourBeds x, Due due) {
        due.bounds(x, "what", x::count, 0, 3);
    }

    @Says(promise = Says.USE, words = "An object is used for at most 512 calls after it has been made;"
        + " what later calls answer is free.")
    static void theLastOfItsCalls(RumourBeds x, Due due) {
        Towns.lodge(x, 0, 1, 0);
        x.sheet(0, 16, 40);
        x.image();
        // Six calls so far.
        for (int call = 7; call <= 511; call++) {
            switch (call % 4) {
                case 0: x.book(0, 0); break;
                case 1: x.read(0, 0); break;
                case 2: x.days(60); break;
                default: x.undo();
            }
        }
        due.is("the 512th", x.larder(0, 60), 0);
    }

    @Says(promise = 42, words = "How many acts answered a finding ever")
    static void howManyFindings(RumourBeds x, Due due) {
        for (int i = 1; i <= 250; i++) {
            x.of(0, 0);
            due.is("so many", x.status(0), i);
        }
        x.comeIn(0);
        due.is("no others", x.status(-1), 251);
        x.comesTrue(16);
        x.days(1);
        due.is("days take none back", x.status(-1), 252);
    }

    @Says(promise = 42, words = "How many acts answered a finding ever")
    static void answersThatAreNoFindings(RumourBeds x, Due due) {
        x.rumour(5, 0);
        x.comeIn(0);
        x.takes(0, 0);
        x.tear();
        x.wipe();
        x.town();
        x.forget(1);
        x.of(0, 4);
        x.sheet(0, 0, 0);
        x.sheet(0, 64, 1);
        x.write(0, 0, -1000000004L);
        x.write(0, 0, 0);
        due.is("none", x.status(-1), 0);
    }

    @Says(promise = 42, words = "(undo() takes none back):")
    static void undoTakesNoneBack(RumourBeds x, Due due) {
        x.image();
        x.of(0, 0);
        x.lays(0);
        x.undo();
        due.is("both", x.status(-1), 2);
        due.is("BEYOND", x.status(0), 1);
        due.is("MISSING", x.status(5), 1);
    }

    @Says(promise = 42, words = "which -1: all, 0 to 6: BEYOND to SIZE.")
    static void whichFindings(RumourBeds x, Due due) {
        for (int which = -1; which <= 6; which++) {
            due.is("at first, " + which, x.status(which), 0);
        }
        for (int i = 0; i < 30; i++) {
            x.feed(0, 4);
        }
        x.rumour(0, 1);
        for (int i = 0; i < 7; i++) {
            if (i < 1) x.of(1, 0);
            if (i < 2) x.feed(0, 1);
            if (i < 3) x.as(0, 5);
            if (i < 4) x.undo();
            if (i < 5) x.improve(0, 1);
            if (i < 6) x.lays(0);
            x.sheet(0, 8, -1);
        }
        for (int which = 0; which <= 6; which++) {
            due.is("status " + which, x.status(which), which + 1);
        }
        due.is("all", x.status(-1), 1 + 2 + 3 + 4 + 5 + 6 + 7);
    }

    @Says(promise = 42, words = "BEYOND (counted from then on): another one.")
    static void anotherWhich(RumourBeds x, Due due) {
        due.bounds(x, "which", x::status, -1, 6);
        due.is("four so far", x.status(-1), 4);
        due.is("which 7", x.status(7), Due.BEYOND);
        due.is("five from then on", x.status(0), 5);
        due.is("which -2", x.status(-2), Due.BEYOND);
        due.is("six from then on", x.status(-1), 6);
    }
}
