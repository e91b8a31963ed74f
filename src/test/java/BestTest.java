/** Promises 21 to 28: fewest, least, best, lean, leanFor, kind, host, beds. */
public final class BestTest {
    private static final Due due = new Due();

    public static void main(String[] args) {
        fewest();
        fewestOfForty();
        least();
        best();
        lean();
        leanFor();
        kind();
        host();
        beds();
        due.end();
    }

    private static void fewest() {
        RumourBeds x = new RumourBeds();
        x.rumour(0, 1);
        due.is("on the road", x.fewest(0, 0), Due.STATE);
        due.is("house 8 comes first", x.fewest(0, 8), Due.BEYOND);
        due.is("house -1 comes first", x.fewest(0, -1), Due.BEYOND);
        x.house(5, 2, 4);
        x.comeIn(0);
        due.is("its own", x.fewest(0, 5), 0);
        due.is("the next", x.fewest(0, 6), 1);
        due.is("round the street", x.fewest(0, 1), 4);
        due.is("the last", x.fewest(0, 4), 7);
        x.house(7, 0, 0);
        due.is("7 has no bed", x.fewest(0, 7), Due.NONE);
        due.is("so the others are nearer", x.fewest(0, 1), 3);
        due.is("nothing changes", x.of(0, 2) * 10 + x.of(0, 4), 105);
        due.is("rumour 1", x.fewest(1, 0), Due.BEYOND);
    }

    /** A big one in house 0, where house 1 leans for it only while its bulk is below 20. */
    private static void fewestOfForty() {
        RumourBeds x = new RumourBeds();
        x.rumour(1, 1);
        x.comeIn(0);
        x.set(0, 2, 19);
        x.house(1, 2, 2);
        due.is("improved, it is too big for 1", x.fewest(0, 1), Due.NONE);
        due.is("and passes it by", x.fewest(0, 2), 1);
        x.set(0, 2, 18);
        due.is("but now it is not", x.fewest(0, 1), 1);
        x.set(0, 2, 99);
        due.is("at 99 it is moved still", x.fewest(0, 3), 2);
    }

    private static void least() {
        RumourBeds x = new RumourBeds();
        x.rumour(1, 1);
        due.is("on the road", x.least(0), Due.STATE);
        x.comeIn(0);
        due.is("by 1", x.least(0), 1);
        for (int h = 1; h < 8; h++) {
            x.house(h, 2, 0);
        }
        due.is("nobody leans", x.least(0), Due.NONE);
        due.is("nothing changes", x.of(0, 2) * 10 + x.of(0, 4), 100);
        due.is("rumour 1", x.least(1), Due.BEYOND);
        due.is("rumour -1", x.least(-1), Due.BEYOND);
    }

    private static void best() {
        RumourBeds x = new RumourBeds();
        due.is("nobody eats", x.best(20), 0);
        x.rumour(0, 9);
        x.rumour(1, 4);
        x.rumour(5, 2);
        x.comeIn(0);
        x.comeIn(1);
        due.is("none has eaten", x.best(0), 0);
        due.is("the big one's", x.best(1), 4);
        x.set(1, 2, 0);
        due.is("of two as good the least", x.best(1), 4);
        x.set(1, 1, 12);
        due.is("of two as good the least", x.best(1), 9);
        due.is("so it stays for some days", x.best(5), 9);
        due.is("nothing came true", x.now(1), 0);
        due.is("nobody left", x.now(2), 4);
        due.is("n 21", x.best(21), Due.BEYOND);
        due.is("n -1", x.best(-1), Due.BEYOND);
        due.is("n 20", x.best(20) >= 0 ? 1 : 0, 1);
    }

    private static void lean() {
        RumourBeds x = new RumourBeds();
        int[] needs = {3, 1, 6, 4, 0, 7};
        for (int kind = 0; kind < 6; kind++) {
            x.rumour(kind, 0);
            due.is("lean for kind " + kind, x.lean(3, kind), needs[kind]);
        }
        x.house(3, 2, 0);
        due.is("however far it leans", x.lean(3, 5), 7);
        x.house(3, 0, 0);
        due.is("no bed", x.lean(3, 5), Due.NONE);
        x.comeIn(0);
        due.is("no bed free", x.lean(0, 1), Due.NONE);
        due.is("house 8", x.lean(8, 0), Due.BEYOND);
        due.is("house -1", x.lean(-1, 0), Due.BEYOND);
        due.is("rumour 6", x.lean(0, 6), Due.BEYOND);
        due.is("rumour -1", x.lean(0, -1), Due.BEYOND);
    }

    private static void leanFor() {
        RumourBeds x = new RumourBeds();
        due.is("none comes", x.leanFor(0, 20), 0);
        x.rumour(4, 1);
        x.rumour(2, 2);
        // A royal one of bulk 10 needs 0, so house 0 has it unless another leans further; with 6 it takes the dull.
        for (int h = 1; h < 8; h++) {
            x.house(h, 0, 0);
        }
        due.is("it has the royal one whatever it does", x.leanFor(0, 5), 0);
        x.set(0, 2, 20);
        due.is("a royal of 20 needs 2", x.leanFor(0, 5), 0);
        x.turn(1, 5);
        x.turn(0, 2);
        x.house(0, 0, 1);
        due.is("a dull one needs 6", x.leanFor(0, 5), 0);
        due.is("nothing changes", x.houseOf(0, 2), 3);

        // With 7 house 0 takes the wells one first, which eats nothing and keeps the bed.
        RumourBeds y = new RumourBeds();
        for (int h = 1; h < 8; h++) {
            y.house(h, 0, 0);
        }
        y.rumour(5, 1);
        y.rumour(4, 2);
        due.is("the wells one keeps the bed from the royal", y.leanFor(0, 5), 7);
        due.is("on 0 days all is one", y.leanFor(0, 0), 0);
        due.is("on 1 day none has eaten", y.leanFor(0, 1), 0);
        // House 0 leans 8 and has the wells one unless house 1 leans further still.
        y.house(1, 0, 1);
        y.house(0, 2, 8);
        due.is("furthest of all", y.leanFor(1, 5), 9);
        due.is("house 8", y.leanFor(8, 0), Due.BEYOND);
        due.is("house -1", y.leanFor(-1, 0), Due.BEYOND);
        due.is("n 21", y.leanFor(0, 21), Due.BEYOND);
        due.is("n -1", y.leanFor(0, -1), Due.BEYOND);
    }

    private static void kind() {
        RumourBeds x = new RumourBeds();
        x.rumour(0, 1);
        due.is("wells", x.kind(0), 5);
        x.set(0, 3, 19);
        due.is("a shy one would eat 1", x.kind(0), 5);
        x.set(0, 3, 20);
        due.is("a shy one would eat 0", x.kind(0), 3);
        due.is("it is as it was", x.of(0, 0), 0);
        due.is("rumour 1", x.kind(1), Due.BEYOND);
        due.is("rumour -1", x.kind(-1), Due.BEYOND);
    }

    private static void host() {
        RumourBeds x = new RumourBeds();
        x.rumour(0, 1);
        x.rumour(5, 2);
        x.house(6, 2, 5);
        x.house(7, 2, 5);
        due.is("who leans furthest", x.host(0), 6);
        due.is("it is on the road still", x.of(0, 4), -1);
        due.is("none leans so far", x.host(1), Due.NONE);
        x.comesTrue(1);
        due.is("true", x.host(0), Due.NONE);
        x.forget(1);
        x.comeIn(0);
        due.is("one in a house, were it to come in now", x.host(0), 7);
        due.is("rumour 2", x.host(2), Due.BEYOND);
        due.is("rumour -1", x.host(-1), Due.BEYOND);
    }

    private static void beds() {
        RumourBeds x = new RumourBeds();
        for (int h = 1; h < 8; h++) {
            x.house(h, 0, 0);
        }
        due.is("nobody", x.beds(0, 20), 0);
        x.rumour(2, 1);
        x.rumour(0, 2);
        due.is("now two are on the road", x.beds(0, 0), Due.NONE);
        due.is("the dull one stays there", x.beds(0, 1), Due.NONE);
        x.house(0, 2, 6);
        due.is("both need a bed", x.beds(0, 1), 2);
        x.rumour(0, 3);
        due.is("three", x.beds(0, 1), 3);
        x.rumour(0, 4);
        due.is("four", x.beds(0, 1), Due.NONE);
        due.is("nothing changes", x.houseOf(0, 0), 1);
        due.is("house 8", x.beds(8, 0), Due.BEYOND);
        due.is("house -1", x.beds(-1, 0), Due.BEYOND);
        due.is("n 21", x.beds(0, 21), Due.BEYOND);
        due.is("n -1", x.beds(0, -1), Due.BEYOND);
        due.is("n 20", x.beds(0, 20), Due.NONE);
    }
}
