/** The terms of findings: their numbers, their order, that they change nothing; quotients and sets. */
public final class FindingsTest {
    public static void main(String[] args) {
        Sentences.run(FindingsTest.class);
    }

    @Says(words = "FINDINGS are answers below -1000000000: -1000000001 BEYOND,")
    static void beyond(RumourBeds x, Due due) {
        due.is("houseOf(8, 0)", x.houseOf(8, 0), -1000000001);
        due.is("as status(0)", x.status(0), 1);
    }

    @Says(words = "-1000000002 FULL,")
    static void full(RumourBeds x, Due due) {
        Towns.fill(x, 10, 0);
        due.is("an 11th", x.rumour(0, 0), -1000000002);
        due.is("as status(1)", x.status(1), 1);
    }

    @Says(words = "-1000000003 KIND,")
    static void kind(RumourBeds x, Due due) {
        x.rumour(0, 0);
        due.is("plain as big", x.as(0, 1), -1000000003);
        due.is("as status(2)", x.status(2), 1);
    }

    @Says(words = "-1000000004 NONE,")
    static void none(RumourBeds x, Due due) {
        due.is("undo()", x.undo(), -1000000004);
        due.is("as status(3)", x.status(3), 1);
    }

    @Says(words = "-1000000005 STATE,")
    static void state(RumourBeds x, Due due) {
        x.rumour(0, 0);
        due.is("improve on the road", x.improve(0, 1), -1000000005);
        due.is("as status(4)", x.status(4), 1);
    }

    @Says(words = "-1000000006 MISSING,")
    static void missing(RumourBeds x, Due due) {
        due.is("lays(0)", x.lays(0), -1000000006);
        due.is("as status(5)", x.status(5), 1);
    }

    @Says(words = "-1000000007 SIZE")
    static void size(RumourBeds x, Due due) {
        due.is("sheet(0, 8, -1)", x.sheet(0, 8, -1), -1000000007);
        due.is("as status(6)", x.status(6), 1);
    }

    @Says(words = "(in longs, too).")
    static void findingsInLongs(RumourBeds x, Due due) {
        due.is("no such sheet", x.write(4, 0, 0L), -1000000001L);
        due.is("a missing one", x.write(0, 0, 0L), -1000000006L);
        x.sheet(0, 64, 1);
        due.is("no such number", x.write(0, 1, 0L), -1000000001L);
    }

    @Says(words = "Each act tells its findings in the order in which they are asked;")
    static void theOrderOfFindings(RumourBeds x, Due due) {
        Towns.fill(x, 10, 0);
        due.is("rumour: BEYOND (kind), FULL", x.rumour(6, 0), Due.BEYOND);
        due.is("rumour: BEYOND (event), FULL", x.rumour(0, 16), Due.BEYOND);
        due.is("as: BEYOND (kind), KIND", x.as(0, 6), Due.BEYOND);
        due.is("improve: BEYOND (v), STATE", x.improve(0, 0), Due.BEYOND);
        due.is("fewest: BEYOND (house), STATE", x.fewest(0, 8), Due.BEYOND);
        Towns.closeAllBut(x, 8);
        due.is("lean: BEYOND (rumour), NONE", x.lean(0, 10), Due.BEYOND);
        due.is("beds: BEYOND (n), NONE", x.beds(0, 21), Due.BEYOND);
        Towns.toTheEndBut(x, 0);
        due.is("days: BEYOND (0), STATE", x.days(0), Due.BEYOND);
        due.is("days: BEYOND (61), STATE", x.days(61), Due.BEYOND);
    }

    @Says(words = "Each act tells its findings in the order in which they are asked;")
    static void theOrderOfFindingsOfTapeAndSheets(RumourBeds x, Due due) {
        Towns.feed(x, " ".repeat(120));
        due.is("feed: BEYOND (0), FULL", x.feed(0, 0), Due.BEYOND);
        due.is("feed: BEYOND (5), FULL", x.feed(0, 5), Due.BEYOND);
        due.is("sheet: BEYOND (s), SIZE", x.sheet(4, 8, -1), Due.BEYOND);
        due.is("sheet: BEYOND (bits), SIZE", x.sheet(0, 7, -1), Due.BEYOND);
        due.is("write: MISSING, BEYOND (i)", x.write(0, -1, 0), Due.MISSING);
        due.is("copy: BEYOND (t), MISSING", x.copy(0, 0, 4, 0, 0), Due.BEYOND);
        due.is("copy: BEYOND (s), MISSING", x.copy(-1, 0, 0, 0, 0), Due.BEYOND);
        x.sheet(1, 8, 1);
        x.sheet(2, 16, 1);
        due.is("copy: MISSING, KIND, BEYOND (n)", x.copy(0, 0, 1, 0, -1), Due.MISSING);
        due.is("copy: KIND, BEYOND (n)", x.copy(1, 0, 2, 0, -1), Due.KIND);
        due.is("book: MISSING, BEYOND (house)", x.book(0, 8), Due.MISSING);
        due.is("read: MISSING, BEYOND (house)", x.read(0, 8), Due.MISSING);
        due.is("book: BEYOND (s)", x.book(4, 8), Due.BEYOND);
        due.is("read: BEYOND (s)", x.read(4, 8), Due.BEYOND);
    }

    @Says(words = "one that answers a finding changes nothing but status().")
    static void aFindingChangesNothing(RumourBeds x, Due due) {
        Towns.lodge(x, 1, 3, 2);
        x.rumour(5, 4);
        x.comesTrue(4);
        x.rumour(0, 3);
        Towns.feed(x, "true");
        String before = Towns.told(x);
        long[] answers = {x.house(8, 0, 2), x.house(0, 3, 2), x.house(0, 0, 4), x.house(0, 1, 1000), x.house(0, 2, 10),
            x.rumour(6, 0), x.rumour(0, 16), x.set(3, 2, 1), x.set(0, 0, 1), x.set(0, 1, 16), x.set(0, 2, 100),
            x.set(0, 3, 1000), x.turn(3, 1), x.turn(0, 6), x.as(0, 2), x.takes(0, 3), x.comeIn(3), x.comeIn(0), x.comeIn(1),
            x.improve(3, 1), x.improve(0, 21), x.improve(0, 0), x.improve(2, 1), x.comesTrue(16), x.comesTrue(-1),
            x.forget(20), x.forget(-28), x.days(0), x.days(61), x.now(7), x.on(0, 61, 0), x.larder(8, 1), x.empty(8),
            x.empty(7), x.many(61), x.out(3), x.fewest(2, 0), x.fewest(0, 8), x.least(2), x.best(21), x.lean(8, 0),
            x.leanFor(0, 21), x.kind(3), x.host(1), x.beds(0, 21), x.feed(0, 5), x.feed(0, 0), x.lays(0), x.book(0, 0),
            x.read(0, 0), x.undo(), x.count(4), x.status(7), x.status(-2)};
        for (int i = 0; i < answers.length; i++) {
            due.holds("call " + i + " answers a finding, " + answers[i], answers[i] < -1000000000);
        }
        due.isAsBefore("a finding", x, before);
        due.is("but status()", x.status(-1), answers.length);
    }

    @Says(words = "one that answers a finding changes nothing but status().")
    static void aFindingChangesNothingInFullTowns(RumourBeds x, Due due) {
        Towns.fill(x, 10, 0);
        Towns.feed(x, "x".repeat(118));
        Towns.closeAllBut(x, 8);
        String before = Towns.told(x);
        due.is("rumour", x.rumour(1, 1), Due.FULL);
        due.is("feed", x.feed(0, 3), Due.FULL);
        due.is("lean", x.lean(0, 0), Due.NONE);
        due.is("beds", x.beds(0, 1), Due.NONE);
        due.is("host", x.host(0), Due.NONE);
        due.isAsBefore("a finding", x, before);
    }

    @Says(words = "one that answers a finding changes nothing but status().")
    static void aFindingChangesNoDay(RumourBeds x, Due due) {
        Towns.toTheEndBut(x, 5);
        Towns.lodge(x, 0, 1, 0);
        String before = Towns.told(x);
        due.is("days", x.days(6), Due.STATE);
        due.isAsBefore("a finding", x, before);
    }

    @Says(words = "one that answers a finding changes nothing but status().")
    static void aFindingChangesNoSheet(RumourBeds x, Due due) {
        x.sheet(0, 8, 3);
        x.sheet(1, 16, 3);
        for (int i = 0; i < 3; i++) {
            x.write(0, i, i + 1);
            x.write(1, i, i + 5);
        }
        long[] answers = {x.sheet(0, 8, 41), x.sheet(0, 0, 41), x.sheet(0, 0, -1), x.sheet(0, 16, -1), x.sheet(0, 9, 1),
            x.write(0, 3, 9), x.write(0, -1, 9), x.copy(0, 0, 1, 0, 3), x.copy(0, 0, 0, 1, 3), x.copy(0, 1, 0, 0, 3),
            x.copy(0, 0, 2, 0, 0), x.book(0, 8), x.read(0, 8)};
        for (int i = 0; i < answers.length; i++) {
            due.holds("call " + i + " answers a finding, " + answers[i], answers[i] < -1000000000);
        }
        due.holds("sheet 0 is as before", Towns.toldSheet(x, 0, 3).equals("sheet 1 2 3"));
        due.holds("sheet 1 is as before", Towns.toldSheet(x, 1, 3).equals("sheet 5 6 7"));
        due.is("sheet 0 has 3", x.write(0, 3, 0), Due.BEYOND);
        due.is("sheet 2 is missing", x.lays(2), Due.MISSING);
        x.write(0, 0, 255);
        due.is("sheet 0 has 8 bits", x.write(0, 0, 0), -1);
    }

    @Says(words = "one that answers a finding changes nothing but status().")
    static void aFindingChangesNoImage(RumourBeds x, Due due) {
        x.undo();
        due.is("no image is kept by an undo of none", x.tear(), 0);
        x.image();
        x.days(3);
        x.days(0);
        x.count(4);
        due.is("the image stays", x.undo(), 0);
        due.is("as it was", x.now(0), 0);
    }

    @Says(words = "Quotients are cut.")
    static void quotientsAreCut(RumourBeds x, Due due) {
        Towns.one(x, 0, 19, 0);
        due.is("a tenth of 19, and 1", x.of(0, 5), 2);
        Towns.one(x, 3, 59, 19);
        due.is("a tenth of 59, and 1, less a tenth of 19", x.of(1, 5), 5);
        Towns.one(x, 1, 99, 0);
        due.is("a tenth of 99, and 1", x.of(2, 7), 10);
        x.house(4, 0, 2);
        Towns.lodge(x, 2, 5, 4);
        Towns.lodge(x, 2, 5, 4);
        x.set(3, 2, 10);
        x.set(4, 2, 13);
        x.days(1);
        due.is("half of 23", x.of(5, 2), 11);
    }

    @Says(words = "Sets are told by bits.")
    static void setsAreToldByBits(RumourBeds x, Due due) {
        Towns.fill(x, 10, 15);
        due.is("all ten on the road", x.now(2), 1023);
        x.house(3, 2, 9);
        x.comeIn(9);
        due.is("all but 9", x.now(2), 511);
        due.is("9 alone", x.houseOf(3, 3), 512);
        due.is("event 15 alone", x.houseOf(3, 4), 32768);
        x.comesTrue(0);
        x.comesTrue(15);
        due.is("events 0 and 15", x.now(1), 32769);
    }
}
