/** Promises 4 to 9: rumour, of, set, turn, as, takes. */
public final class RumoursTest {
    private static final Due due = new Due();

    public static void main(String[] args) {
        rumour();
        eats();
        needs();
        grows();
        set();
        turn();
        as();
        takes();
        due.end();
    }

    private static void rumour() {
        RumourBeds x = new RumourBeds();
        due.is("kind 6", x.rumour(6, 0), Due.BEYOND);
        due.is("kind -1", x.rumour(-1, 0), Due.BEYOND);
        due.is("event 16", x.rumour(0, 16), Due.BEYOND);
        due.is("event -1", x.rumour(0, -1), Due.BEYOND);
        for (int r = 0; r < 10; r++) {
            due.is("a new one", x.rumour(r % 6, r + 6), r);
            due.is("its kind", x.of(r, 0), r % 6);
            due.is("its event", x.of(r, 1), r + 6);
            due.is("its bulk", x.of(r, 2), 10);
            due.is("its age", x.of(r, 3), 0);
            due.is("on the road", x.of(r, 4), -1);
        }
        due.is("an eleventh", x.rumour(0, 0), Due.FULL);
        due.is("beyond comes first", x.rumour(0, 16), Due.BEYOND);
        due.is("ten", x.count(0), 10);
        due.is("what 8", x.of(0, 8), Due.BEYOND);
        due.is("what -1", x.of(0, -1), Due.BEYOND);
        due.is("rumour 10", x.of(10, 0), Due.BEYOND);
        due.is("rumour -1", x.of(-1, 0), Due.BEYOND);
    }

    private static RumourBeds one(int kind, int bulk, int age) {
        RumourBeds x = new RumourBeds();
        x.rumour(kind, 0);
        x.set(0, 2, bulk);
        x.set(0, 3, age);
        return x;
    }

    private static void eats() {
        int[][] rows = {
            // kind, bulk, age, eats
            {0, 0, 0, 1}, {0, 9, 0, 1}, {0, 10, 0, 2}, {0, 99, 999, 10},
            {1, 0, 0, 2}, {1, 19, 0, 4}, {1, 99, 0, 20},
            {2, 0, 0, 1}, {2, 99, 0, 1},
            {3, 35, 0, 4}, {3, 35, 9, 4}, {3, 35, 10, 3}, {3, 35, 39, 1}, {3, 35, 40, 0}, {3, 35, 999, 0},
            {4, 0, 0, 5}, {4, 15, 0, 7}, {4, 99, 0, 23},
            {5, 0, 0, 0}, {5, 99, 999, 0},
        };
        for (int[] row : rows) {
            due.is("eats of kind " + row[0] + " bulk " + row[1] + " age " + row[2],
                one(row[0], row[1], row[2]).of(0, 5), row[3]);
        }
    }

    private static void needs() {
        int[][] rows = {
            // kind, bulk, needs
            {0, 0, 3}, {0, 99, 3}, {1, 19, 1}, {1, 20, 3}, {2, 0, 6}, {2, 99, 6},
            {3, 10, 4}, {4, 19, 0}, {4, 20, 2}, {5, 10, 7},
        };
        for (int[] row : rows) {
            due.is("needs of kind " + row[0] + " bulk " + row[1], one(row[0], row[1], 0).of(0, 6), row[2]);
        }
    }

    private static void grows() {
        int[][] rows = {
            // kind, bulk, age, grows
            {0, 50, 3, 1}, {1, 9, 0, 1}, {1, 10, 0, 2}, {1, 99, 0, 10}, {2, 50, 0, 0},
            {3, 50, 0, 1}, {3, 50, 1, 0}, {3, 50, 998, 1}, {3, 50, 999, 0}, {4, 35, 1, 4}, {5, 50, 0, 0},
        };
        for (int[] row : rows) {
            due.is("grows of kind " + row[0] + " bulk " + row[1] + " age " + row[2],
                one(row[0], row[1], row[2]).of(0, 7), row[3]);
        }
    }

    private static void set() {
        RumourBeds x = one(0, 10, 0);
        int[] most = {0, 15, 99, 999};
        int[] first = {0, 0, 10, 0};
        for (int what = 1; what <= 3; what++) {
            due.is("set to most", x.set(0, what, most[what]), first[what]);
            due.is("set above", x.set(0, what, most[what] + 1), Due.BEYOND);
            due.is("set below", x.set(0, what, -1), Due.BEYOND);
            due.is("it is most", x.of(0, what), most[what]);
            due.is("set to 0", x.set(0, what, 0), most[what]);
        }
        due.is("no kind so", x.set(0, 0, 0), Due.BEYOND);
        due.is("no house so", x.set(0, 4, 0), Due.BEYOND);
        due.is("rumour 1", x.set(1, 2, 0), Due.BEYOND);
        due.is("rumour -1", x.set(-1, 2, 0), Due.BEYOND);
    }

    private static void turn() {
        RumourBeds x = one(0, 10, 0);
        due.is("turn", x.turn(0, 5), 0);
        due.is("turn again", x.turn(0, 1), 5);
        due.is("turn to the same", x.turn(0, 1), 1);
        due.is("it eats as that", x.of(0, 5), 4);
        due.is("kind 6", x.turn(0, 6), Due.BEYOND);
        due.is("kind -1", x.turn(0, -1), Due.BEYOND);
        due.is("rumour 1", x.turn(1, 0), Due.BEYOND);
        due.is("it stays", x.of(0, 0), 1);
    }

    private static void as() {
        String[] under = {"100000", "110000", "101000", "100100", "110010", "101001"};
        for (int kind = 0; kind < 6; kind++) {
            RumourBeds x = one(kind, 42, 0);
            for (int top = 0; top < 6; top++) {
                due.is("kind " + kind + " as " + top, x.as(0, top),
                    under[kind].charAt(top) == '1' ? 42 : Due.KIND);
            }
            due.is("as 6", x.as(0, 6), Due.BEYOND);
            due.is("as -1", x.as(0, -1), Due.BEYOND);
            due.is("rumour 1 as 0", x.as(1, 0), Due.BEYOND);
        }
    }

    private static void takes() {
        RumourBeds x = one(0, 10, 0);
        x.rumour(1, 0);
        x.rumour(3, 0);
        due.is("leans as far", x.takes(0, 0), 1);
        due.is("leans not as far", x.takes(0, 2), 0);
        x.house(0, 2, 2);
        due.is("leans less", x.takes(0, 0), 0);
        due.is("leans further", x.takes(0, 1), 1);
        x.set(1, 2, 20);
        due.is("now too big", x.takes(0, 1), 0);
        x.house(0, 2, 9);
        due.is("comes in", x.comeIn(0), 0);
        due.is("the bed is taken", x.takes(0, 1), 0);
        due.is("also for its own", x.takes(0, 0), 0);
        due.is("another takes it, wherever it is", x.takes(1, 0), 1);
        x.house(0, 0, 2);
        due.is("a second bed", x.takes(0, 1), 1);
        due.is("also for its own", x.takes(0, 0), 1);
        x.house(0, 0, 0);
        due.is("no bed", x.takes(0, 1), 0);
        x.comesTrue(0);
        due.is("it takes one of a true event", x.takes(1, 0), 1);
        due.is("house 8", x.takes(8, 0), Due.BEYOND);
        due.is("house -1", x.takes(-1, 0), Due.BEYOND);
        due.is("rumour 3", x.takes(0, 3), Due.BEYOND);
        due.is("rumour -1", x.takes(0, -1), Due.BEYOND);
    }
}
