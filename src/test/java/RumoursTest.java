/** TAKES, and promises 4 to 9: rumour, of, set, turn, as, takes. */
public final class RumoursTest {
    public static void main(String[] args) {
        Sentences.run(RumoursTest.class);
    }

    @Says(words = "TAKES: a HOUSE one, if it has a BED free (fewer lodge there than BEDS)")
    static void takesIfABedIsFree(RumourBeds x, Due due) {
        x.house(3, 2, 9);
        x.rumour(0, 0);
        for (int beds = 0; beds <= 3; beds++) {
            x.house(3, 0, beds);
            due.is("nobody, beds " + beds, x.takes(3, 0), beds > 0 ? 1 : 0);
        }
        for (int lodgers = 1; lodgers <= 3; lodgers++) {
            Towns.lodge(x, 0, 0, 3);
            for (int beds = 0; beds <= 3; beds++) {
                x.house(3, 0, beds);
                due.is(lodgers + " lodge, beds " + beds, x.takes(3, 0), lodgers < beds ? 1 : 0);
            }
        }
    }

    @Says(words = "and LEANS as far as that NEEDS, or further.")
    static void takesIfItLeansSoFar(RumourBeds x, Due due) {
        int[] needs = {3, 1, 6, 4, 0, 7};
        for (int kind = 0; kind < 6; kind++) {
            x.rumour(kind, 0);
            for (int leans = 0; leans <= 9; leans++) {
                x.house(5, 2, leans);
                due.is("leans " + leans + " for kind " + kind, x.takes(5, kind), leans >= needs[kind] ? 1 : 0);
            }
        }
    }

    @Says(promise = 4, words = "A new RUMOUR of an EVENT, on the ROAD:")
    static void aNewOne(RumourBeds x, Due due) {
        for (int r = 0; r < 10; r++) {
            x.rumour(r % 6, r + 6);
            due.is("its kind", x.of(r, 0), r % 6);
            due.is("its event", x.of(r, 1), r + 6);
            due.is("its bulk", x.of(r, 2), 10);
            due.is("its age", x.of(r, 3), 0);
            due.is("on the road", x.of(r, 4), -1);
        }
    }

    @Says(promise = 4, words = "its number.")
    static void itsNumber(RumourBeds x, Due due) {
        due.is("the first", x.rumour(5, 15), 0);
        due.is("the second, of the same", x.rumour(5, 15), 1);
        x.comesTrue(15);
        due.is("one of a true event", x.rumour(5, 15), 2);
        x.house(0, 0, 2);
        Towns.lodge(x, 0, 1, 0);
        Towns.lodge(x, 0, 1, 0);
        due.is("a third is made", x.days(1), 6);
        due.is("the next behind that", x.rumour(0, 0), 6);
    }

    @Says(promise = 4, words = "BEYOND: kind, event.")
    static void rumourOfNoKind(RumourBeds x, Due due) {
        due.bounds(x, "kind", kind -> x.rumour(kind, 0), 0, 5);
        due.is("two came", x.count(0), 2);
    }

    @Says(promise = 4, words = "BEYOND: kind, event.")
    static void rumourOfNoEvent(RumourBeds x, Due due) {
        due.bounds(x, "event", event -> x.rumour(0, event), 0, 15);
        due.is("two came", x.count(0), 2);
    }

    @Says(promise = 4, words = "FULL.")
    static void rumourWhenFull(RumourBeds x, Due due) {
        Towns.fill(x, 9, 0);
        due.is("a 10th", x.rumour(1, 2), 9);
        due.is("an 11th", x.rumour(3, 4), Due.FULL);
        due.is("counted", x.status(1), 1);
        due.is("ten", x.count(0), 10);
        due.is("the 10th is as it was", x.of(9, 0), 1);
        due.is("the 10th is as it was", x.of(9, 1), 2);
    }

    @Says(promise = 5, words = "Of a RUMOUR: what 0 KIND,")
    static void ofKind(RumourBeds x, Due due) {
        x.rumour(5, 1);
        x.rumour(3, 2);
        due.is("kind", x.of(0, 0), 5);
        due.is("kind", x.of(1, 0), 3);
    }

    @Says(promise = 5, words = "1 EVENT,")
    static void ofEvent(RumourBeds x, Due due) {
        x.rumour(5, 15);
        x.rumour(3, 0);
        due.is("event", x.of(0, 1), 15);
        due.is("event", x.of(1, 1), 0);
    }

    @Says(promise = 5, words = "2 BULK,")
    static void ofBulk(RumourBeds x, Due due) {
        Towns.one(x, 0, 99, 5);
        Towns.one(x, 0, 0, 5);
        due.is("bulk", x.of(0, 2), 99);
        due.is("bulk", x.of(1, 2), 0);
    }

    @Says(promise = 5, words = "3 AGE,")
    static void ofAge(RumourBeds x, Due due) {
        Towns.one(x, 0, 7, 999);
        Towns.one(x, 0, 7, 0);
        due.is("age", x.of(0, 3), 999);
        due.is("age", x.of(1, 3), 0);
    }

    @Says(promise = 5, words = "4 the HOUSE (-1),")
    static void ofHouse(RumourBeds x, Due due) {
        Towns.lodge(x, 0, 0, 0);
        Towns.lodge(x, 0, 0, 7);
        x.rumour(0, 0);
        due.is("in the first", x.of(0, 4), 0);
        due.is("in the last", x.of(1, 4), 7);
        due.is("on the road", x.of(2, 4), -1);
    }

    @Says(promise = 5, words = "5 EATS,")
    static void ofEats(RumourBeds x, Due due) {
        Towns.one(x, 4, 35, 0);
        due.is("eats", x.of(0, 5), 11);
    }

    @Says(promise = 5, words = "6 NEEDS,")
    static void ofNeeds(RumourBeds x, Due due) {
        Towns.one(x, 4, 35, 0);
        due.is("needs", x.of(0, 6), 2);
    }

    @Says(promise = 5, words = "7 GROWS now.")
    static void ofGrows(RumourBeds x, Due due) {
        Towns.one(x, 3, 99, 4);
        due.is("at an even age, also if its bulk is the most", x.of(0, 7), 1);
        x.days(1);
        due.is("now that its age is odd", x.of(0, 7), 0);
        x.turn(0, 1);
        due.is("now that it is big", x.of(0, 7), 10);
    }

    @Says(promise = 5, words = "BEYOND.")
    static void ofNoRumour(RumourBeds x, Due due) {
        due.is("when there is none", x.of(0, 0), Due.BEYOND);
        Towns.fill(x, 2, 0);
        due.bounds(x, "rumour", r -> x.of(r, 0), 0, 1);
    }

    @Says(promise = 5, words = "BEYOND.")
    static void ofNoWhat(RumourBeds x, Due due) {
        x.rumour(0, 0);
        due.bounds(x, "what", what -> x.of(0, what), 0, 7);
    }

    @Says(promise = 6, words = "EVENT (what 1),")
    static void setEvent(RumourBeds x, Due due) {
        Towns.lodge(x, 1, 4, 2);
        x.comesTrue(9);
        due.is("of an event that is true", x.set(0, 1, 9), 4);
        due.is("event", x.of(0, 1), 9);
        due.is("it stays in its house", x.of(0, 4), 2);
        due.is("bulk stays", x.of(0, 2), 10);
        due.is("age stays", x.of(0, 3), 0);
        due.is("kind stays", x.of(0, 0), 1);
    }

    @Says(promise = 6, words = "BULK (2),")
    static void setBulk(RumourBeds x, Due due) {
        x.rumour(1, 4);
        x.rumour(1, 4);
        due.is("bulk", x.set(1, 2, 77), 10);
        due.is("it is", x.of(1, 2), 77);
        due.is("event stays", x.of(1, 1), 4);
        due.is("age stays", x.of(1, 3), 0);
        due.is("the other's stays", x.of(0, 2), 10);
    }

    @Says(promise = 6, words = "AGE (3) of a RUMOUR becomes v:")
    static void setAge(RumourBeds x, Due due) {
        x.rumour(1, 4);
        x.rumour(1, 4);
        due.is("age", x.set(0, 3, 500), 0);
        due.is("it is", x.of(0, 3), 500);
        due.is("event stays", x.of(0, 1), 4);
        due.is("bulk stays", x.of(0, 2), 10);
        due.is("the other's stays", x.of(1, 3), 0);
    }

    @Says(promise = 6, words = "what it was.")
    static void setWhatItWas(RumourBeds x, Due due) {
        x.rumour(0, 5);
        int[] first = {0, 5, 10, 0};
        for (int what = 1; what <= 3; what++) {
            due.is("at first", x.set(0, what, 14), first[what]);
            due.is("then", x.set(0, what, 0), 14);
            due.is("the same again", x.set(0, what, 0), 0);
        }
    }

    @Says(promise = 6, words = "BEYOND.")
    static void setOfNoRumour(RumourBeds x, Due due) {
        Towns.fill(x, 2, 0);
        due.bounds(x, "rumour", r -> x.set(r, 2, 5), 0, 1);
    }

    @Says(promise = 6, words = "BEYOND.")
    static void setOfNoWhat(RumourBeds x, Due due) {
        x.rumour(0, 0);
        due.bounds(x, "what (no KIND, no HOUSE)", what -> x.set(0, what, 5), 1, 3);
    }

    @Says(promise = 6, words = "BEYOND.")
    static void setOfNoSuchEvent(RumourBeds x, Due due) {
        x.rumour(0, 0);
        due.bounds(x, "event", v -> x.set(0, 1, v), 0, 15);
    }

    @Says(promise = 6, words = "BEYOND.")
    static void setOfNoSuchBulk(RumourBeds x, Due due) {
        x.rumour(0, 0);
        due.bounds(x, "bulk", v -> x.set(0, 2, v), 0, 99);
    }

    @Says(promise = 6, words = "BEYOND.")
    static void setOfNoSuchAge(RumourBeds x, Due due) {
        x.rumour(0, 0);
        due.bounds(x, "age", v -> x.set(0, 3, v), 0, 999);
    }

    @Says(promise = 7, words = "A RUMOUR becomes one of another KIND:")
    static void turned(RumourBeds x, Due due) {
        Towns.lodge(x, 0, 3, 4);
        x.rumour(0, 3);
        x.turn(0, 5);
        due.is("kind", x.of(0, 0), 5);
        due.is("it eats as that", x.of(0, 5), 0);
        due.is("it needs as that", x.of(0, 6), 7);
        due.is("event stays", x.of(0, 1), 3);
        due.is("bulk stays", x.of(0, 2), 10);
        due.is("house stays, however far that leans", x.of(0, 4), 4);
        due.is("the other stays", x.of(1, 0), 0);
    }

    @Says(promise = 7, words = "what it was.")
    static void turnedWhatItWas(RumourBeds x, Due due) {
        x.rumour(3, 0);
        due.is("at first", x.turn(0, 5), 3);
        due.is("then", x.turn(0, 0), 5);
        due.is("the same again", x.turn(0, 0), 0);
    }

    @Says(promise = 7, words = "BEYOND.")
    static void turnOfNoRumour(RumourBeds x, Due due) {
        Towns.fill(x, 2, 0);
        due.bounds(x, "rumour", r -> x.turn(r, 5), 0, 1);
    }

    @Says(promise = 7, words = "BEYOND.")
    static void turnToNoKind(RumourBeds x, Due due) {
        x.rumour(0, 0);
        due.bounds(x, "kind", kind -> x.turn(0, kind), 0, 5);
    }

    @Says(promise = 8, words = "A RUMOUR as one of a kind: BULK.")
    static void asOneOfAKind(RumourBeds x, Due due) {
        Towns.one(x, 4, 99, 0);
        due.is("royal as royal", x.as(0, 4), 99);
        due.is("royal as big", x.as(0, 1), 99);
        due.is("royal as rumour", x.as(0, 0), 99);
        x.set(0, 2, 0);
        due.is("a bulk of 0", x.as(0, 0), 0);
        due.is("it is royal still", x.of(0, 0), 4);
    }

    @Says(promise = 8, words = "BEYOND: no such one, kind.")
    static void asOfNoRumour(RumourBeds x, Due due) {
        Towns.fill(x, 2, 0);
        due.bounds(x, "rumour", r -> x.as(r, 0), 0, 1);
    }

    @Says(promise = 8, words = "BEYOND: no such one, kind.")
    static void asOfNoKind(RumourBeds x, Due due) {
        x.rumour(0, 0);
        due.bounds(x, "kind", kind -> x.as(0, kind), 0, 5);
    }

    @Says(promise = 8, words = "KIND: it isn't of that kind, nor of one under it.")
    static void asOfAnotherKind(RumourBeds x, Due due) {
        x.rumour(1, 0);
        due.is("big as royal, which is under it", x.as(0, 4), Due.KIND);
        due.is("big as dull, beside it", x.as(0, 2), Due.KIND);
        x.turn(0, 4);
        due.is("royal as dull", x.as(0, 2), Due.KIND);
        due.is("royal as wells", x.as(0, 5), Due.KIND);
        x.turn(0, 5);
        due.is("wells as big", x.as(0, 1), Due.KIND);
        due.is("wells as shy", x.as(0, 3), Due.KIND);
        due.is("wells as dull", x.as(0, 2), 10);
        due.is("counted", x.status(2), 6);
    }

    @Says(promise = 9, words = "1 if a HOUSE TAKES a RUMOUR")
    static void takesOne(RumourBeds x, Due due) {
        x.rumour(0, 0);
        due.is("it leans as far", x.takes(0, 0), 1);
        due.is("so does the last", x.takes(7, 0), 1);
        x.comesTrue(0);
        due.is("also one of a true event", x.takes(0, 0), 1);
        due.is("it takes it not in", x.of(0, 4), -1);
    }

    @Says(promise = 9, words = "(wherever that is),")
    static void takesOneThatLodges(RumourBeds x, Due due) {
        Towns.lodge(x, 0, 0, 4);
        due.is("another house", x.takes(5, 0), 1);
        due.is("its own, whose bed it has", x.takes(4, 0), 0);
        x.house(4, 0, 2);
        due.is("its own, which has another bed", x.takes(4, 0), 1);
        due.is("it stays there", x.of(0, 4), 4);
    }

    @Says(promise = 9, words = "else 0.")
    static void takesNone(RumourBeds x, Due due) {
        x.rumour(3, 0);
        due.is("it leans not as far", x.takes(0, 0), 0);
        x.house(0, 2, 4);
        due.is("it does now", x.takes(0, 0), 1);
        x.house(0, 0, 0);
        due.is("it has no bed", x.takes(0, 0), 0);
        due.is("no finding", x.status(-1), 0);
    }

    @Says(promise = 9, words = "BEYOND.")
    static void takesOfNoHouse(RumourBeds x, Due due) {
        x.rumour(0, 0);
        due.bounds(x, "house", h -> x.takes(h, 0), 0, 7);
    }

    @Says(promise = 9, words = "BEYOND.")
    static void takesOfNoRumour(RumourBeds x, Due due) {
        Towns.fill(x, 2, 0);
        due.bounds(x, "rumour", r -> x.takes(0, r), 0, 1);
    }
}
