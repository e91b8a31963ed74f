/** Promises 38 to 42: image, undo, tear, count, status. */
public final class ImagesTest {
    private static final Due due = new Due();

    public static void main(String[] args) {
        imageAndUndo();
        tear();
        count();
        status();
        due.end();
    }

    private static void imageAndUndo() {
        RumourBeds x = new RumourBeds();
        due.is("nothing is kept", x.undo(), Due.NONE);
        x.rumour(1, 3);
        x.comeIn(0);
        x.days(2);
        x.comesTrue(9);
        due.is("image", x.image(), 1);
        int larder = x.houseOf(0, 1);
        int bulk = x.of(0, 2);

        x.house(0, 0, 3);
        x.house(0, 1, 1);
        x.house(0, 2, 9);
        x.rumour(0, 3);
        x.days(5);
        x.comesTrue(3);
        x.forget(9);
        x.set(0, 1, 7);
        x.set(0, 2, 77);
        x.set(0, 3, 700);
        x.turn(0, 5);
        x.sheet(0, 8, 2);
        x.write(0, 0, 5);
        x.feed(0x74, 1);
        for (int again = 0; again < 2; again++) {
            due.is("undo", x.undo(), 1);
            due.is("kind", x.of(0, 0), 1);
            due.is("event", x.of(0, 1), 3);
            due.is("bulk", x.of(0, 2), bulk);
            due.is("age", x.of(0, 3), 2);
            due.is("house", x.of(0, 4), 0);
            due.is("beds", x.houseOf(0, 0), 1);
            due.is("larder", x.houseOf(0, 1), larder);
            due.is("leans", x.houseOf(0, 2), 3);
            due.is("day", x.now(0), 2);
            due.is("true", x.now(1), 1 << 9);
            due.is("no bed free", x.takes(0, 0), 0);
            x.days(1);
            x.comesTrue(3);
        }
        due.is("the tape stays", x.count(1), 1);
        due.is("the sheet stays", x.write(0, 0, 0), 5);
        due.is("findings stay", x.status(3), 1);
        x.image();
        x.days(10);
        due.is("what was kept latest", x.undo(), 1);
        due.is("day", x.now(0), 3);
    }

    private static void tear() {
        RumourBeds x = new RumourBeds();
        due.is("nothing", x.tear(), 0);
        x.image();
        due.is("something", x.tear(), 1);
        due.is("nothing now", x.tear(), 0);
        due.is("undo", x.undo(), Due.NONE);
    }

    private static void count() {
        RumourBeds x = new RumourBeds();
        x.rumour(0, 1);
        x.rumour(0, 2);
        x.rumour(0, 3);
        x.comeIn(1);
        x.house(4, 0, 3);
        x.feed(0, 3);
        due.is("rumours", x.count(0), 3);
        due.is("bytes", x.count(1), 3);
        due.is("in houses", x.count(2), 1);
        due.is("beds", x.count(3), 10);
        due.is("what 4", x.count(4), Due.BEYOND);
        due.is("what -1", x.count(-1), Due.BEYOND);
        x.days(1);
        due.is("in houses", x.count(2), 3);
        x.comesTrue(1);
        due.is("in houses", x.count(2), 2);
    }

    private static void status() {
        RumourBeds x = new RumourBeds();
        for (int which = -1; which <= 6; which++) {
            due.is("status " + which, x.status(which), 0);
        }
        due.is("which 7", x.status(7), Due.BEYOND);
        due.is("which -2", x.status(-2), Due.BEYOND);
        due.is("counted from then on", x.status(0), 2);
        for (int i = 0; i < 30; i++) {
            x.feed(0, 4);
        }
        due.is("full", x.feed(0, 1), Due.FULL);
        x.rumour(0, 1);
        x.as(0, 5);
        x.as(0, 4);
        x.undo();
        x.improve(0, 1);
        x.lays(0);
        x.write(0, 0, 0);
        x.sheet(0, 8, -1);
        due.is("a fault is no finding", x.town(), -1);
        int[] counts = {2, 1, 2, 1, 1, 2, 1};
        for (int which = 0; which <= 6; which++) {
            due.is("status " + which, x.status(which), counts[which]);
        }
        due.is("all", x.status(-1), 10);
        x.image();
        x.status(7);
        x.undo();
        due.is("undo takes none back", x.status(-1), 11);
    }
}
