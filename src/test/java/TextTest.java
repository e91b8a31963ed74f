/** Promises 29 to 31: feed, wipe, town. */
public final class TextTest {
    private static final Due due = new Due();

    public static void main(String[] args) {
        feedAndWipe();
        items();
        faults();
        textsOfBeds();
        anEleventh();
        aFaultChangesNothing();
        due.end();
    }

    private static void feedAndWipe() {
        RumourBeds x = new RumourBeds();
        due.is("n 0", x.feed(1, 0), Due.BEYOND);
        due.is("n 5", x.feed(1, 5), Due.BEYOND);
        due.is("n -1", x.feed(1, -1), Due.BEYOND);
        due.is("two of four bytes", x.feed(0x61627472, 2), 2);
        due.is("the others", x.feed(0x7565, 2), 4);
        due.is("a digit", x.feed(0x7fffff33, 1), 5);
        due.is("true3", x.town(), 1);
        due.is("3 is true", x.now(1), 8);
        due.is("the tape is empty", x.count(1), 0);
        due.is("wipe nothing", x.wipe(), 0);
        for (int i = 1; i <= 29; i++) {
            due.is("feed", x.feed(0x20202020, 4), 4 * i);
        }
        due.is("three more", x.feed(0x202020, 3), 119);
        due.is("two are too many", x.feed(0x2020, 2), Due.FULL);
        due.is("beyond comes first", x.feed(0x2020, 5), Due.BEYOND);
        due.is("one more", x.feed(0x20, 1), 120);
        due.is("it is full", x.feed(0x20, 1), Due.FULL);
        due.is("how many it has", x.count(1), 120);
        due.is("wipe", x.wipe(), 120);
        due.is("it is empty", x.count(1), 0);
        Due.feed(x, "true 1");
        due.is("wipe", x.wipe(), 6);
        due.is("nothing of it is left", Due.town(x, "true 2"), 1);
        due.is("2 and 3", x.now(1), 12);
    }

    private static void items() {
        RumourBeds x = new RumourBeds();
        due.is("a plain one", Due.town(x, "rumour of 3"), 1);
        due.is("its number", x.count(0), 1);
        due.is("kind", x.of(0, 0), 0);
        due.is("event", x.of(0, 1), 3);
        due.is("bulk", x.of(0, 2), 10);
        due.is("road", x.of(0, 4), -1);
        due.is("all kinds", Due.town(x, "big of 15;dull of 0 bulk 0;shy of 1 in 0;royal of 2 bulk 99 in 7;wells of 007in1"), 5);
        int[][] rows = {{1, 15, 10, -1}, {2, 0, 0, -1}, {3, 1, 10, 0}, {4, 2, 99, 7}, {5, 7, 10, 1}};
        for (int r = 1; r <= 5; r++) {
            due.is("kind of " + r, x.of(r, 0), rows[r - 1][0]);
            due.is("event of " + r, x.of(r, 1), rows[r - 1][1]);
            due.is("bulk of " + r, x.of(r, 2), rows[r - 1][2]);
            due.is("age of " + r, x.of(r, 3), 0);
            due.is("house of " + r, x.of(r, 4), rows[r - 1][3]);
        }
        due.is("houses", Due.town(x, " house 0 ; house 1 leans 9;house 2 larder 999 ;house 3 beds 0 larder 0 leans 0;house 4 beds 3 "), 5);
        due.is("leans of 1", x.houseOf(1, 2), 9);
        due.is("larder of 1", x.houseOf(1, 1), 50);
        due.is("larder of 2", x.houseOf(2, 1), 999);
        due.is("beds of 3", x.houseOf(3, 0), 0);
        due.is("larder of 3", x.houseOf(3, 1), 0);
        due.is("leans of 3", x.houseOf(3, 2), 0);
        due.is("beds of 4", x.houseOf(4, 0), 3);
        due.is("beds of 0", x.houseOf(0, 0), 1);
        due.is("true", Due.town(x, "true 1;true 15"), 2);
        due.is("they are true", x.now(1), (1 << 1) | (1 << 15));
        due.is("the shy one left", x.of(3, 4), -1);
        due.is("the edges", Due.town(x, "true 0;house 7 beds 2"), 2);
        due.is("0 is true", x.now(1) & 1, 1);
        due.is("beds of 7", x.houseOf(7, 0), 2);
        due.is("no finding", x.status(-1), 0);
    }

    private static void faults() {
        Object[][] rows = {
            // a text, and the place of its fault
            {"", 0}, {"   ", 3}, {";", 0}, {"rumour", 6}, {"rumour of", 9}, {"rumour of ", 10},
            {"rumour of 1;", 12}, {"rumour of 1; ", 13}, {"rumour of 1;;", 12}, {"rumour of 16", 10},
            {"rumour of 1 bulk", 16}, {"rumour of 1 bulk 100", 17}, {"rumour of 1 bulk 1000", 17},
            {"rumour of 1 bulk 1 bulk 1", 19}, {"rumour of 1 in 8", 15}, {"rumour of 1 in 0 bulk 1", 17},
            {"rumour of 1 in", 14}, {"rumour of 1 in in", 15}, {"rumours of 1", 0}, {"rumour off 1", 7},
            {"rumourof 1", 0}, {"Rumour of 1", 0}, {"rumour of 1 big of 2", 12}, {"rumour of 1.", 11},
            {"rumour! of 1", 6}, {"rumour of 1\tin 2", 11}, {"of 1", 0}, {"3", 0},
            {"house", 5}, {"house 8", 6}, {"house 0 beds 4", 13}, {"house 0 beds", 12},
            {"house 0 larder 1000", 15}, {"house 0 larder 99999999999", 15}, {"house 0 larder 4294967296", 15},
            {"house 0 leans 10", 14}, {"house 0 larder 1 beds 1", 17}, {"house 0 leans 1 larder 1", 16},
            {"house 0 bulk 1", 8}, {"house 1 1", 8}, {"true", 4}, {"true 16", 5}, {"true 1 2", 7},
            {"true 1 true 2", 7}, {"true x", 5}, {"true 1;x", 7}, {"true ; 1", 5}, {"true \u00e9", 5},
            {"true 1000", 5}, {"brue 1", 0}, {"trub 1", 0}, {"truez 1", 0}, {"true 1z", 6}, {"true{1", 4}, {"true`1", 4},
            {"true/1", 4}, {"true:1", 4}, {"true 1;house 9 ?", 13},
        };
        for (Object[] row : rows) {
            RumourBeds x = new RumourBeds();
            due.is("'" + row[0] + "'", Due.town(x, (String) row[0]), -1 - (Integer) row[1]);
            due.is("'" + row[0] + "' no rumours", x.count(0), 0);
            due.is("'" + row[0] + "' the tape is empty", x.count(1), 0);
            due.is("'" + row[0] + "' nothing true", x.now(1), 0);
            due.is("'" + row[0] + "' no finding", x.status(-1), 0);
        }
    }

    private static void textsOfBeds() {
        RumourBeds x = new RumourBeds();
        due.is("one bed for two", Due.town(x, "big of 1 in 3;big of 1 in 3"), -1 - 26);
        due.is("none came", x.count(0), 0);
        due.is("a bed is told first", Due.town(x, "house 3 beds 2;big of 1 in 3;dull of 1 in 3"), 3);
        due.is("both lodge", x.houseOf(3, 3), 3);
        due.is("no more", Due.town(x, "big of 2 in 3"), -1 - 12);
        due.is("true frees the beds", Due.town(x, "true 1;big of 2 in 3"), 2);
        due.is("that one lodges", x.houseOf(3, 3), 4);
        due.is("one of a true event may be told in", Due.town(x, "dull of 1 in 4"), 1);
        due.is("and lodges", x.houseOf(4, 3), 8);
        due.is("beds taken away", Due.town(x, "house 5 beds 0;big of 1 in 5"), -1 - 27);
        due.is("the bed stays", x.houseOf(5, 0), 1);
    }

    private static void anEleventh() {
        RumourBeds x = new RumourBeds();
        for (int r = 0; r < 9; r++) {
            x.rumour(0, 0);
        }
        due.is("an eleventh", Due.town(x, "big of 1; shy of 1"), -1 - 10);
        due.is("none came", x.count(0), 9);
        due.is("a tenth", Due.town(x, "big of 1"), 1);
        due.is("its own place before what is behind it", Due.town(x, "big ?"), -1);
        due.is("houses still", Due.town(x, "house 2;true 1"), 2);
        due.is("no finding", x.status(-1), 0);
    }

    private static void aFaultChangesNothing() {
        RumourBeds x = new RumourBeds();
        x.rumour(0, 1);
        x.comeIn(0);
        due.is("a fault at the end", Due.town(x, "true 1;house 0 beds 3 larder 7 leans 9;shy of 2 in 0 x"), -1 - 53);
        due.is("nothing true", x.now(1), 0);
        due.is("it lodges", x.of(0, 4), 0);
        due.is("beds", x.houseOf(0, 0), 1);
        due.is("larder", x.houseOf(0, 1), 50);
        due.is("leans", x.houseOf(0, 2), 3);
        due.is("one", x.count(0), 1);
        due.is("the tape is empty", x.count(1), 0);
        due.is("a bed behind", x.takes(0, 0), 0);
    }
}
