/** Promises 32 to 37: sheet, write, copy, lays, book, read. */
public final class SheetsTest {
    private static final Due due = new Due();

    public static void main(String[] args) {
        sheet();
        write();
        copy();
        lays();
        book();
        read();
        readOfTwo();
        due.end();
    }

    private static void sheet() {
        RumourBeds x = new RumourBeds();
        due.is("sheet 4", x.sheet(4, 8, 1), Due.BEYOND);
        due.is("sheet -1", x.sheet(-1, 8, 1), Due.BEYOND);
        due.is("other bits", x.sheet(0, 32, 1), Due.BEYOND);
        due.is("other bits come first", x.sheet(0, -8, -1), Due.BEYOND);
        due.is("n below 0", x.sheet(0, 8, -1), Due.SIZE);
        due.is("n below 0, missing", x.sheet(0, 0, -1), Due.SIZE);
        due.is("n 41", x.sheet(0, 8, 41), Due.BEYOND);
        due.is("n 41, missing", x.sheet(0, 0, 41), Due.BEYOND);
        due.is("still missing", x.write(0, 0, 0), Due.MISSING);
        due.is("40", x.sheet(0, 8, 40), 40);
        due.is("0", x.sheet(3, 64, 0), 0);
        due.is("no number in it", x.write(3, 0, 1), Due.BEYOND);
        due.is("written", x.write(0, 39, 5), 0);
        due.is("anew", x.sheet(0, 16, 40), 40);
        due.is("all 0", x.write(0, 39, 0), 0);
        due.is("missing", x.sheet(0, 0, 40), 0);
        due.is("it is", x.write(0, 0, 0), Due.MISSING);
        due.is("sizes", x.status(6), 2);
    }

    private static void write() {
        RumourBeds x = new RumourBeds();
        x.sheet(0, 8, 2);
        x.sheet(1, 16, 2);
        x.sheet(2, 64, 2);
        long[] values = {127, 128, 255, 256, -1, -129, 32767, 32768, 65535, 65536, Long.MAX_VALUE, Long.MIN_VALUE};
        for (long v : values) {
            x.write(0, 1, v);
            due.is("8 bits of " + v, x.write(0, 1, 0), (byte) v);
            x.write(1, 1, v);
            due.is("16 bits of " + v, x.write(1, 1, 0), (short) v);
            x.write(2, 1, v);
            due.is("64 bits of " + v, x.write(2, 1, 0), v);
        }
        due.is("the other one", x.write(2, 0, 7), 0);
        due.is("number 2", x.write(2, 2, 7), Due.BEYOND);
        due.is("number -1", x.write(2, -1, 7), Due.BEYOND);
        due.is("sheet 4", x.write(4, 0, 7), Due.BEYOND);
        due.is("sheet -1", x.write(-1, 0, 7), Due.BEYOND);
        due.is("missing comes first", x.write(3, -1, 7), Due.MISSING);
        due.is("it is 7", x.write(2, 0, 0), 7);
    }

    private static void copy() {
        RumourBeds x = new RumourBeds();
        x.sheet(0, 16, 5);
        x.sheet(1, 16, 3);
        x.sheet(2, 8, 5);
        for (int i = 0; i < 5; i++) {
            x.write(0, i, i + 1);
        }
        due.is("to another", x.copy(0, 1, 1, 0, 3), 3);
        due.is("over itself, behind", x.copy(0, 0, 0, 1, 4), 4);
        due.is("over itself, ahead", x.copy(1, 1, 1, 0, 2), 2);
        int[] first = {1, 1, 2, 3, 4};
        for (int i = 0; i < 5; i++) {
            due.is("number " + i, x.write(0, i, first[i]), first[i]);
        }
        int[] second = {3, 4, 4};
        for (int i = 0; i < 3; i++) {
            due.is("number " + i + " of 1", x.write(1, i, 0), second[i]);
        }
        due.is("none", x.copy(0, 5, 1, 3, 0), 0);
        due.is("one is missing", x.copy(0, 0, 3, 0, 0), Due.MISSING);
        due.is("the other is missing", x.copy(3, 0, 0, 0, 0), Due.MISSING);
        due.is("other bits", x.copy(0, 0, 2, 0, 0), Due.KIND);
        due.is("other bits come first", x.copy(0, -1, 2, 0, 0), Due.KIND);
        due.is("not so many", x.copy(0, 3, 1, 0, 3), Due.BEYOND);
        due.is("no room for so many", x.copy(0, 0, 1, 1, 3), Due.BEYOND);
        due.is("from below 0", x.copy(0, -1, 1, 0, 1), Due.BEYOND);
        due.is("to below 0", x.copy(0, 0, 1, -1, 1), Due.BEYOND);
        due.is("n below 0", x.copy(0, 0, 1, 0, -1), Due.BEYOND);
        due.is("from as much as can be", x.copy(0, Integer.MAX_VALUE, 1, 0, 1), Due.BEYOND);
        due.is("to as much as can be", x.copy(0, 0, 1, Integer.MAX_VALUE, Integer.MAX_VALUE), Due.BEYOND);
        due.is("n as little as can be", x.copy(0, 0, 1, 0, Integer.MIN_VALUE), Due.BEYOND);
        due.is("sheet 4", x.copy(4, 0, 0, 0, 0), Due.BEYOND);
        due.is("to sheet 4, from a missing one", x.copy(3, 0, 4, 0, 0), Due.BEYOND);
        due.is("sheet -1", x.copy(0, 0, -1, 0, 0), Due.BEYOND);
    }

    private static void lays() {
        RumourBeds x = new RumourBeds();
        x.sheet(0, 64, 10);
        long[] values = {9, 10, -1, 0, 4294967296L, 5, 6, 7, 8, 8};
        for (int i = 0; i < 10; i++) {
            x.write(0, i, values[i]);
        }
        due.is("five came", x.lays(0), 5);
        int[] leans = {9, 3, 3, 0, 3, 5, 6, 7};
        for (int h = 0; h < 8; h++) {
            due.is("leans of " + h, x.houseOf(h, 2), leans[h]);
        }
        x.sheet(1, 8, 0);
        due.is("none", x.lays(1), 0);
        due.is("sheet 2", x.lays(2), Due.MISSING);
        due.is("sheet 4", x.lays(4), Due.BEYOND);
        due.is("sheet -1", x.lays(-1), Due.BEYOND);
    }

    private static void book() {
        RumourBeds x = new RumourBeds();
        x.rumour(0, 1);
        x.comeIn(0);
        x.sheet(0, 16, 40);
        due.is("book", x.book(0, 0), 40);
        for (int n = 0; n < 40; n++) {
            due.is("on " + n, x.write(0, n, 0), x.larder(0, n));
        }
        x.house(1, 1, 300);
        x.sheet(1, 8, 1);
        due.is("book of 8 bits", x.book(1, 1), 1);
        due.is("the lowest bits", x.write(1, 0, 0), 44);
        x.sheet(1, 8, 0);
        due.is("none", x.book(1, 1), 0);
        due.is("day", x.now(0), 0);
        due.is("missing", x.book(2, 8), Due.MISSING);
        due.is("house 8", x.book(0, 8), Due.BEYOND);
        due.is("house -1", x.book(0, -1), Due.BEYOND);
        due.is("sheet 4", x.book(4, 0), Due.BEYOND);
        due.is("sheet -1", x.book(-1, 0), Due.BEYOND);
    }

    private static void read() {
        RumourBeds x = new RumourBeds();
        x.rumour(0, 1);
        x.comeIn(0);
        x.sheet(0, 16, 3);
        x.book(0, 0);
        // A shy one of age 0 eats as a plain one does, on these days.
        due.is("plain or shy", x.read(0, 0), 2);
        due.is("it is as it was", x.of(0, 0), 0);
        due.is("nobody lodges there", x.read(0, 1), 0);
        x.write(0, 1, 46);
        x.write(0, 2, 42);
        due.is("big", x.read(0, 0), 1);
        x.write(0, 1, 50);
        x.write(0, 2, 50);
        due.is("wells", x.read(0, 0), 1);
        x.write(0, 0, 49);
        due.is("none", x.read(0, 0), 0);
        x.sheet(0, 8, 0);
        due.is("every kind", x.read(0, 0), 6);
        due.is("missing comes first", x.read(1, 8), Due.MISSING);
        due.is("house 8", x.read(0, 8), Due.BEYOND);
        due.is("house -1", x.read(0, -1), Due.BEYOND);
        due.is("sheet 4", x.read(4, 0), Due.BEYOND);
        due.is("sheet -1", x.read(-1, 0), Due.BEYOND);
    }

    private static void readOfTwo() {
        RumourBeds x = new RumourBeds();
        x.house(0, 0, 2);
        x.house(0, 2, 9);
        x.house(0, 1, 999);
        x.rumour(2, 1);
        x.rumour(5, 2);
        x.comeIn(0);
        x.comeIn(1);
        x.sheet(0, 64, 2);
        x.write(0, 0, 999);
        // Now they eat 1 and 0. Together 3: the first plain or shy (2) and wells does 2; dull and the second 2 does 3.
        x.write(0, 1, 996);
        due.is("the second plain or shy", x.read(0, 0), 2);
        x.write(0, 1, 998);
        due.is("the first as it is, the second as it is", x.read(0, 0), 2);
        x.write(0, 1, 997);
        due.is("the first plain or shy, or the second dull", x.read(0, 0), 3);
        x.sheet(1, 8, 1);
        x.write(1, 0, 999);
        due.is("999 is not in 8 bits", x.read(1, 0), 0);
    }
}
