/** The terms of rumours: kinds, bounds, what one of each kind EATS, NEEDS and GROWS. */
public final class KindsTest {
    private static final int EATS = 5;
    private static final int NEEDS = 6;
    private static final int GROWS = 7;

    public static void main(String[] args) {
        Sentences.run(KindsTest.class);
    }

    /** Rows of bulk, age and what is due, for one of a kind. */
    private static void table(RumourBeds x, Due due, int what, int kind, int[][] rows) {
        x.rumour(kind, 0);
        for (int[] row : rows) {
            x.set(0, 2, row[0]);
            x.set(0, 3, row[1]);
            due.is("of(0, " + what + ") of kind " + kind + ", bulk " + row[0] + ", age " + row[1], x.of(0, what), row[2]);
        }
    }

    @Says(words = "RUMOURS 0, 1, .. (at most 10)")
    static void atMostTen(RumourBeds x, Due due) {
        for (int r = 0; r < 10; r++) {
            due.is("a new one", x.rumour(0, 0), r);
        }
        due.is("an 11th", x.rumour(0, 0), Due.FULL);
        due.is("rumour 9", x.of(9, 0), 0);
        due.is("rumour 10", x.of(10, 0), Due.BEYOND);
    }

    @Says(words = "are of KINDS: 0 RUMOUR, 1 BIG under RUMOUR, 2 DULL under RUMOUR, 3 SHY under RUMOUR,"
        + " 4 ROYAL under BIG, 5 WELLS under DULL;")
    static void kindsUnderKinds(RumourBeds x, Due due) {
        String[] isAs = {"100000", "110000", "101000", "100100", "110010", "101001"};
        for (int kind = 0; kind < 6; kind++) {
            x.rumour(kind, 0);
            for (int top = 0; top < 6; top++) {
                due.is("kind " + kind + " as " + top, x.as(kind, top), isAs[kind].charAt(top) == '1' ? 10 : Due.KIND);
            }
        }
    }

    @Says(words = "each of an EVENT,")
    static void eachOfAnEvent(RumourBeds x, Due due) {
        due.is("event 0", x.rumour(0, 0), 0);
        due.is("event 15", x.rumour(0, 15), 1);
        due.is("event 16", x.rumour(0, 16), Due.BEYOND);
        due.is("event -1", x.rumour(0, -1), Due.BEYOND);
        due.is("of 0", x.of(0, 1), 0);
        due.is("of 15", x.of(1, 1), 15);
    }

    @Says(words = "with a BULK (0 to 99; 10 at first),")
    static void bulkMayBe(RumourBeds x, Due due) {
        x.rumour(0, 0);
        due.is("at first", x.of(0, 2), 10);
        due.is("to most", x.set(0, 2, 99), 10);
        due.is("above", x.set(0, 2, 100), Due.BEYOND);
        due.is("it is the most", x.of(0, 2), 99);
        due.is("to 0", x.set(0, 2, 0), 99);
        due.is("below", x.set(0, 2, -1), Due.BEYOND);
        due.is("it is 0", x.of(0, 2), 0);
    }

    @Says(words = "AGE (days; 0 at first, held to 999),")
    static void ageMayBe(RumourBeds x, Due due) {
        x.rumour(0, 0);
        due.is("at first", x.of(0, 3), 0);
        x.days(60);
        due.is("in days", x.of(0, 3), 60);
        due.is("to 998", x.set(0, 3, 998), 60);
        x.days(1);
        due.is("the most", x.of(0, 3), 999);
        x.days(1);
        due.is("held", x.of(0, 3), 999);
        due.is("above", x.set(0, 3, 1000), Due.BEYOND);
        due.is("below", x.set(0, 3, -1), Due.BEYOND);
        due.is("still", x.set(0, 3, 999), 999);
        x.days(60);
        due.is("held for days", x.of(0, 3), 999);
    }

    @Says(words = "in a HOUSE or on the ROAD (-1).")
    static void inAHouseOrOnTheRoad(RumourBeds x, Due due) {
        x.rumour(0, 0);
        due.is("on the road", x.of(0, 4), -1);
        Towns.lodge(x, 0, 1, 7);
        due.is("in 7", x.of(1, 4), 7);
        x.comesTrue(1);
        due.is("on the road again", x.of(1, 4), -1);
    }

    @Says(words = "EATS (a day): RUMOUR: a tenth of BULK, and 1.")
    static void eatsAsRumour(RumourBeds x, Due due) {
        table(x, due, EATS, 0, new int[][] {{0, 0, 1}, {9, 0, 1}, {10, 0, 2}, {19, 0, 2}, {20, 0, 3}, {99, 0, 10}, {99, 999, 10}});
    }

    @Says(words = "BIG: twice as RUMOUR.")
    static void eatsAsBig(RumourBeds x, Due due) {
        table(x, due, EATS, 1, new int[][] {{0, 0, 2}, {9, 0, 2}, {10, 0, 4}, {19, 0, 4}, {20, 0, 6}, {99, 0, 20}, {99, 999, 20}});
    }

    @Says(words = "DULL: 1.")
    static void eatsAsDull(RumourBeds x, Due due) {
        table(x, due, EATS, 2, new int[][] {{0, 0, 1}, {10, 0, 1}, {99, 0, 1}, {99, 999, 1}});
    }

    @Says(words = "SHY: as RUMOUR, less a tenth of AGE (0 at least).")
    static void eatsAsShy(RumourBeds x, Due due) {
        table(x, due, EATS, 3, new int[][] {{0, 0, 1}, {0, 9, 1}, {0, 10, 0}, {0, 20, 0}, {35, 0, 4}, {35, 9, 4}, {35, 10, 3},
            {35, 39, 1}, {35, 40, 0}, {35, 50, 0}, {99, 99, 1}, {99, 100, 0}, {99, 999, 0}});
    }

    @Says(words = "ROYAL: as BIG, and 3.")
    static void eatsAsRoyal(RumourBeds x, Due due) {
        table(x, due, EATS, 4, new int[][] {{0, 0, 5}, {9, 0, 5}, {10, 0, 7}, {99, 0, 23}, {99, 999, 23}});
    }

    @Says(words = "WELLS: as DULL, less 1.")
    static void eatsAsWells(RumourBeds x, Due due) {
        table(x, due, EATS, 5, new int[][] {{0, 0, 0}, {99, 0, 0}, {99, 999, 0}});
    }

    @Says(words = "NEEDS (how far a HOUSE must lean to take it): RUMOUR: 3.")
    static void needsAsRumour(RumourBeds x, Due due) {
        table(x, due, NEEDS, 0, new int[][] {{0, 0, 3}, {19, 0, 3}, {20, 0, 3}, {99, 999, 3}});
    }

    @Says(words = "BIG: as RUMOUR, but 1, if BULK is below 20.")
    static void needsAsBig(RumourBeds x, Due due) {
        table(x, due, NEEDS, 1, new int[][] {{0, 0, 1}, {19, 0, 1}, {20, 0, 3}, {21, 0, 3}, {99, 999, 3}});
    }

    @Says(words = "DULL: twice as RUMOUR.")
    static void needsAsDull(RumourBeds x, Due due) {
        table(x, due, NEEDS, 2, new int[][] {{0, 0, 6}, {19, 0, 6}, {99, 999, 6}});
    }

    @Says(words = "SHY: as RUMOUR, and 1.")
    static void needsAsShy(RumourBeds x, Due due) {
        table(x, due, NEEDS, 3, new int[][] {{0, 0, 4}, {19, 0, 4}, {99, 999, 4}});
    }

    @Says(words = "ROYAL: as BIG, less 1.")
    static void needsAsRoyal(RumourBeds x, Due due) {
        table(x, due, NEEDS, 4, new int[][] {{0, 0, 0}, {19, 0, 0}, {20, 0, 2}, {99, 999, 2}});
    }

    @Says(words = "WELLS: as DULL, and 1.")
    static void needsAsWells(RumourBeds x, Due due) {
        table(x, due, NEEDS, 5, new int[][] {{0, 0, 7}, {19, 0, 7}, {99, 999, 7}});
    }

    @Says(words = "GROWS (BULK a day): RUMOUR: 1.")
    static void growsAsRumour(RumourBeds x, Due due) {
        table(x, due, GROWS, 0, new int[][] {{0, 0, 1}, {50, 1, 1}, {99, 999, 1}});
    }

    @Says(words = "BIG: a tenth of BULK, and as RUMOUR.")
    static void growsAsBig(RumourBeds x, Due due) {
        table(x, due, GROWS, 1, new int[][] {{0, 0, 1}, {9, 0, 1}, {10, 0, 2}, {19, 1, 2}, {99, 999, 10}});
    }

    @Says(words = "DULL: 0.")
    static void growsAsDull(RumourBeds x, Due due) {
        table(x, due, GROWS, 2, new int[][] {{0, 0, 0}, {50, 1, 0}, {99, 999, 0}});
    }

    @Says(words = "SHY: as RUMOUR, if AGE is even, else 0.")
    static void growsAsShy(RumourBeds x, Due due) {
        table(x, due, GROWS, 3, new int[][] {{50, 0, 1}, {50, 1, 0}, {50, 2, 1}, {99, 998, 1}, {99, 999, 0}});
    }

    @Says(words = "ROYAL: as BIG.")
    static void growsAsRoyal(RumourBeds x, Due due) {
        table(x, due, GROWS, 4, new int[][] {{0, 0, 1}, {9, 1, 1}, {10, 0, 2}, {35, 1, 4}, {99, 999, 10}});
    }

    @Says(words = "WELLS: as DULL.")
    static void growsAsWells(RumourBeds x, Due due) {
        table(x, due, GROWS, 5, new int[][] {{0, 0, 0}, {50, 1, 0}, {99, 999, 0}});
    }

    /** Every kind tells all three itself, so what is left to the kind above is to be one of it. */
    @Says(words = "(Others as the KIND above, here and there.)")
    static void othersAsTheKindAbove(RumourBeds x, Due due) {
        int[] above = {0, 0, 0, 0, 1, 2};
        for (int kind = 1; kind < 6; kind++) {
            x.rumour(kind, 0);
            due.is("kind " + kind + " as the kind above", x.as(kind - 1, above[kind]), 10);
        }
        due.is("royal grows as big does", x.of(3, GROWS), x.of(0, GROWS));
        due.is("wells grows as dull does", x.of(4, GROWS), x.of(1, GROWS));
    }
}
