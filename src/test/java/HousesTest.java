/** Promises 1 to 3: a new object, house, houseOf. */
public final class HousesTest {
    private static final Due due = new Due();

    public static void main(String[] args) {
        newObject();
        house();
        houseOf();
        due.end();
    }

    private static void newObject() {
        RumourBeds x = new RumourBeds();
        due.is("new: rumours", x.count(0), 0);
        due.is("new: tape", x.count(1), 0);
        due.is("new: in houses", x.count(2), 0);
        due.is("new: beds", x.count(3), 8);
        due.is("new: findings", x.status(-1), 0);
        due.is("new: day", x.now(0), 0);
        due.is("new: true", x.now(1), 0);
        due.is("new: larders", x.now(4), 400);
        due.is("new: free beds", x.now(5), 8);
        for (int h = 0; h < 8; h++) {
            due.is("new: beds of " + h, x.houseOf(h, 0), 1);
            due.is("new: larder of " + h, x.houseOf(h, 1), 50);
            due.is("new: leans of " + h, x.houseOf(h, 2), 3);
        }
        for (int s = 0; s < 4; s++) {
            due.is("new: sheet " + s, x.lays(s), Due.MISSING);
        }
        due.is("new: no image", x.tear(), 0);
        due.is("new: undo", x.undo(), Due.NONE);
    }

    private static void house() {
        RumourBeds x = new RumourBeds();
        int[] most = {3, 999, 9};
        int[] first = {1, 50, 3};
        for (int what = 0; what < 3; what++) {
            due.is("house to most", x.house(7, what, most[what]), first[what]);
            due.is("house to 0", x.house(7, what, 0), most[what]);
            due.is("house above", x.house(7, what, most[what] + 1), Due.BEYOND);
            due.is("house below", x.house(7, what, -1), Due.BEYOND);
            due.is("house stays", x.houseOf(7, what), 0);
        }
        due.is("no house 8", x.house(8, 0, 0), Due.BEYOND);
        due.is("no house -1", x.house(-1, 0, 0), Due.BEYOND);
        due.is("no what 3", x.house(0, 3, 0), Due.BEYOND);
        due.is("no what -1", x.house(0, -1, 0), Due.BEYOND);
        due.is("others stay", x.houseOf(6, 1), 50);

        x.rumour(0, 4);
        x.comeIn(0);
        due.is("beds go", x.house(0, 0, 0), 1);
        due.is("who lodges there stays", x.of(0, 4), 0);
        due.is("who lodges there stays for days", x.days(3), 1);
        due.is("still there", x.of(0, 4), 0);
    }

    private static void houseOf() {
        RumourBeds x = new RumourBeds();
        x.house(2, 0, 3);
        x.house(2, 2, 9);
        x.rumour(0, 4);
        x.rumour(2, 9);
        x.rumour(4, 4);
        x.comeIn(2);
        due.is("one lodges", x.houseOf(2, 3), 4);
        due.is("its event", x.houseOf(2, 4), 1 << 4);
        due.is("it eats twice 2 and 3", x.houseOf(2, 5), 7);
        x.comeIn(0);
        x.comeIn(1);
        due.is("three lodge", x.houseOf(2, 3), 7);
        due.is("two events", x.houseOf(2, 4), (1 << 4) | (1 << 9));
        due.is("they eat 2, 1 and 7", x.houseOf(2, 5), 10);
        due.is("nobody in 0", x.houseOf(0, 3), 0);
        due.is("no events in 0", x.houseOf(0, 4), 0);
        due.is("nothing eaten in 0", x.houseOf(0, 5), 0);
        due.is("nobody elsewhere", x.houseOf(3, 3), 0);
        due.is("no events elsewhere", x.houseOf(3, 4), 0);
        due.is("nothing eaten elsewhere", x.houseOf(3, 5), 0);
        due.is("beds", x.houseOf(2, 0), 3);
        due.is("leans", x.houseOf(2, 2), 9);
        due.is("what 6", x.houseOf(2, 6), Due.BEYOND);
        due.is("what -1", x.houseOf(2, -1), Due.BEYOND);
        due.is("house 8", x.houseOf(8, 0), Due.BEYOND);
        due.is("house -1", x.houseOf(-1, 0), Due.BEYOND);
    }
}
