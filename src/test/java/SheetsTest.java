/** The terms of sheets, and promises 32 to 37: sheet, write, copy, lays, book, read. */
public final class SheetsTest {
    public static void main(String[] args) {
        Sentences.run(SheetsTest.class);
    }

    /** A sheet that has just these numbers. */
    private static void make(RumourBeds x, int s, int bits, long... numbers) {
        x.sheet(s, bits, numbers.length);
        for (int i = 0; i < numbers.length; i++) {
            x.write(s, i, numbers[i]);
        }
    }

    private static void isSheet(RumourBeds x, Due due, int s, String numbers, int n) {
        String told = Towns.toldSheet(x, s, n);
        due.holds("sheet " + s + " is " + numbers + ", it is " + told, told.equals("sheet " + numbers));
        due.is("number " + n + " of sheet " + s, x.write(s, n, 0), Due.BEYOND);
    }

    @Says(words = "3. SHEETS 0 to 3")
    static void fourSheets(RumourBeds x, Due due) {
        for (int s = 0; s < 4; s++) {
            due.is("sheet " + s, x.sheet(s, 16, s + 1), s + 1);
            x.write(s, s, 70 + s);
        }
        for (int s = 0; s < 4; s++) {
            due.is("its own number", x.write(s, s, 0), 70 + s);
        }
        due.is("sheet 4", x.sheet(4, 16, 1), Due.BEYOND);
        due.is("sheet -1", x.sheet(-1, 16, 1), Due.BEYOND);
    }

    @Says(words = "are rows of at most 40 numbers")
    static void atMostForty(RumourBeds x, Due due) {
        due.is("40", x.sheet(0, 8, 40), 40);
        due.is("the last", x.write(0, 39, 5), 0);
        due.is("none behind it", x.write(0, 40, 5), Due.BEYOND);
        due.is("41", x.sheet(0, 8, 41), Due.BEYOND);
        due.is("it is as it was", x.write(0, 39, 5), 5);
        due.is("0", x.sheet(0, 8, 0), 0);
        due.is("it has none", x.write(0, 0, 5), Due.BEYOND);
    }

    /** Told as Java tells numbers of so many bits: a byte, a short, a long. */
    @Says(words = "of 8, 16 or 64 bits,")
    static void bits(RumourBeds x, Due due) {
        long[] values = {0, 1, -1, 127, 128, -128, -129, 255, 256, 32767, 32768, -32768, -32769, 65535, 65536, 4294967296L,
            Long.MAX_VALUE, Long.MIN_VALUE};
        x.sheet(0, 8, 1);
        x.sheet(1, 16, 1);
        x.sheet(2, 64, 1);
        for (long v : values) {
            x.write(0, 0, v);
            x.write(1, 0, v);
            x.write(2, 0, v);
            due.is("8 bits of " + v, x.write(0, 0, 0), (byte) v);
            due.is("16 bits of " + v, x.write(1, 0, 0), (short) v);
            due.is("64 bits of " + v, x.write(2, 0, 0), v);
        }
    }

    @Says(words = "or MISSING (at first).")
    static void missingAtFirst(RumourBeds x, Due due) {
        for (int s = 0; s < 4; s++) {
            due.is("sheet " + s, x.write(s, 0, 0), Due.MISSING);
        }
        x.sheet(2, 8, 1);
        due.is("not any more", x.write(2, 0, 0), 0);
        due.is("the others still", x.write(3, 0, 0), Due.MISSING);
    }

    @Says(promise = 32, words = "A sheet has n numbers, all 0, of 8, 16 or 64 bits;")
    static void allNought(RumourBeds x, Due due) {
        make(x, 1, 8, 5, 6, 7);
        due.is("anew", x.sheet(1, 16, 2), 2);
        isSheet(x, due, 1, "0 0", 2);
        make(x, 1, 16, 300, 400);
        due.is("of 16 bits", x.write(1, 0, 0), 300);
        due.is("anew, of as many", x.sheet(1, 16, 2), 2);
        isSheet(x, due, 1, "0 0", 2);
        due.is("longer", x.sheet(1, 64, 3), 3);
        isSheet(x, due, 1, "0 0 0", 3);
    }

    @Says(promise = 32, words = "bits 0: it is MISSING:")
    static void bitsNought(RumourBeds x, Due due) {
        make(x, 1, 8, 5);
        x.sheet(1, 0, 1);
        due.is("missing", x.write(1, 0, 0), Due.MISSING);
        due.is("one that was missing", x.sheet(2, 0, 0), 0);
        due.is("still", x.write(2, 0, 0), Due.MISSING);
        x.sheet(1, 8, 1);
        due.is("nothing of it is left", x.write(1, 0, 0), 0);
    }

    @Says(promise = 32, words = "n (0 if it is MISSING).")
    static void sheetAnswersN(RumourBeds x, Due due) {
        due.is("n", x.sheet(1, 8, 17), 17);
        due.is("0", x.sheet(1, 8, 0), 0);
        due.is("missing, n 0", x.sheet(1, 0, 0), 0);
        due.is("missing, n 40", x.sheet(1, 0, 40), 0);
    }

    @Says(promise = 32, words = "BEYOND: no such sheet, other bits.")
    static void sheetOfNoSheet(RumourBeds x, Due due) {
        due.bounds(x, "sheet", s -> x.sheet(s, 8, 1), 0, 3);
    }

    @Says(promise = 32, words = "BEYOND: no such sheet, other bits.")
    static void sheetOfOtherBits(RumourBeds x, Due due) {
        make(x, 0, 8, 5);
        int[] others = {-8, -1, 1, 7, 9, 15, 17, 24, 32, 63, 65, 128, Integer.MAX_VALUE, Integer.MIN_VALUE};
        for (int bits : others) {
            due.is("bits " + bits, x.sheet(0, bits, 1), Due.BEYOND);
            due.is("bits " + bits + ", n below 0", x.sheet(0, bits, -1), Due.BEYOND);
        }
        due.is("counted", x.status(0), 2 * others.length);
        isSheet(x, due, 0, "5", 1);
    }

    @Says(promise = 32, words = "SIZE: n is below 0 (also with bits 0).")
    static void sheetBelowNought(RumourBeds x, Due due) {
        make(x, 0, 8, 5);
        int[] bits = {0, 8, 16, 64};
        for (int b : bits) {
            due.is("bits " + b, x.sheet(0, b, -1), Due.SIZE);
            due.is("bits " + b, x.sheet(0, b, Integer.MIN_VALUE), Due.SIZE);
        }
        due.is("counted", x.status(6), 8);
        isSheet(x, due, 0, "5", 1);
    }

    @Says(promise = 32, words = "BEYOND: n is above 40 (also with bits 0).")
    static void sheetAboveForty(RumourBeds x, Due due) {
        make(x, 0, 8, 5);
        int[] bits = {0, 8, 16, 64};
        for (int b : bits) {
            due.is("bits " + b, x.sheet(0, b, 41), Due.BEYOND);
            due.is("bits " + b, x.sheet(0, b, Integer.MAX_VALUE), Due.BEYOND);
        }
        due.is("counted", x.status(0), 8);
        isSheet(x, due, 0, "5", 1);
        for (int b : bits) {
            due.is("40 of bits " + b, x.sheet(0, b, 40), b == 0 ? 0 : 40);
        }
    }

    @Says(promise = 33, words = "Number i of a sheet becomes v (its lowest bits):")
    static void numberBecomesV(RumourBeds x, Due due) {
        x.sheet(0, 8, 3);
        x.write(0, 0, 1);
        x.write(0, 2, 0x1234567890L);
        isSheet(x, due, 0, "1 0 -112", 3);
        x.sheet(1, 16, 2);
        x.write(1, 1, 0x1234567890L);
        isSheet(x, due, 1, "0 30864", 2);
        x.sheet(2, 64, 2);
        x.write(2, 0, Long.MIN_VALUE);
        isSheet(x, due, 2, "-9223372036854775808 0", 2);
    }

    @Says(promise = 33, words = "what it was.")
    static void writeWhatItWas(RumourBeds x, Due due) {
        x.sheet(0, 64, 1);
        due.is("at first", x.write(0, 0, Long.MAX_VALUE), 0);
        due.is("then", x.write(0, 0, -1000000001L), Long.MAX_VALUE);
        due.is("a number like a finding", x.write(0, 0, 7), -1000000001L);
        due.is("which is none", x.status(-1), 0);
    }

    @Says(promise = 33, words = "BEYOND: no such sheet.")
    static void writeOfNoSheet(RumourBeds x, Due due) {
        for (int s = 0; s < 4; s++) {
            x.sheet(s, 8, 1);
        }
        due.bounds(x, "sheet", s -> x.write(s, 0, 1), 0, 3);
    }

    @Says(promise = 33, words = "MISSING.")
    static void writeToAMissingOne(RumourBeds x, Due due) {
        due.is("missing", x.write(0, 0, 1), Due.MISSING);
        due.is("missing, no such number", x.write(0, 40, 1), Due.MISSING);
        due.is("counted", x.status(5), 2);
        due.is("it stays so", x.lays(0), Due.MISSING);
    }

    @Says(promise = 33, words = "BEYOND: no such number.")
    static void writeOfNoNumber(RumourBeds x, Due due) {
        x.sheet(0, 8, 5);
        due.bounds(x, "number", i -> x.write(0, i, 1), 0, 4);
        isSheet(x, due, 0, "1 0 0 0 1", 5);
        x.sheet(1, 8, 0);
        due.is("0 of none", x.write(1, 0, 1), Due.BEYOND);
        x.sheet(0, 8, 4);
        due.is("one that it had", x.write(0, 4, 1), Due.BEYOND);
    }

    @Says(promise = 34, words = "n numbers of a sheet from one on come to another one from one on")
    static void copied(RumourBeds x, Due due) {
        make(x, 0, 16, 1, 2, 3, 4, 5);
        make(x, 1, 16, 7, 8, 9);
        due.is("two", x.copy(0, 3, 1, 1, 2), 2);
        isSheet(x, due, 0, "1 2 3 4 5", 5);
        isSheet(x, due, 1, "7 4 5", 3);
        due.is("all of one", x.copy(1, 0, 0, 0, 3), 3);
        isSheet(x, due, 0, "7 4 5 4 5", 5);
    }

    @Says(promise = 34, words = "(as they all were):")
    static void copiedOverItself(RumourBeds x, Due due) {
        make(x, 0, 64, 1, 2, 3, 4, 5);
        due.is("behind", x.copy(0, 0, 0, 1, 4), 4);
        isSheet(x, due, 0, "1 1 2 3 4", 5);
        due.is("ahead", x.copy(0, 1, 0, 0, 4), 4);
        isSheet(x, due, 0, "1 2 3 4 4", 5);
        due.is("to where it is", x.copy(0, 0, 0, 0, 5), 5);
        isSheet(x, due, 0, "1 2 3 4 4", 5);
    }

    @Says(promise = 34, words = "n. BEYOND: no such sheet (either).")
    static void copyOfNoSheet(RumourBeds x, Due due) {
        for (int s = 0; s < 4; s++) {
            x.sheet(s, 8, 2);
        }
        due.bounds(x, "from sheet", s -> x.copy(s, 0, 1, 0, 2), 0, 3);
        due.bounds(x, "to sheet", t -> x.copy(1, 0, t, 0, 2), 0, 3);
    }

    @Says(promise = 34, words = "n. BEYOND: no such sheet (either).")
    static void copyAnswersN(RumourBeds x, Due due) {
        x.sheet(0, 8, 40);
        x.sheet(1, 8, 40);
        x.sheet(2, 8, 0);
        due.is("40", x.copy(0, 0, 1, 0, 40), 40);
        due.is("1, the last to the last", x.copy(0, 39, 1, 39, 1), 1);
        due.is("0", x.copy(0, 0, 1, 0, 0), 0);
        due.is("0, behind the last", x.copy(0, 40, 1, 40, 0), 0);
        due.is("0, of none", x.copy(2, 0, 2, 0, 0), 0);
    }

    @Says(promise = 34, words = "MISSING: one is.")
    static void copyOfAMissingOne(RumourBeds x, Due due) {
        x.sheet(0, 8, 2);
        due.is("from", x.copy(1, 0, 0, 0, 0), Due.MISSING);
        due.is("to", x.copy(0, 0, 1, 0, 0), Due.MISSING);
        due.is("both", x.copy(1, 0, 1, 0, 0), Due.MISSING);
        due.is("though there are not so many", x.copy(0, 3, 1, 0, 1), Due.MISSING);
        due.is("counted", x.status(5), 4);
    }

    @Says(promise = 34, words = "KIND: they are not of as many bits.")
    static void copyOfOtherBits(RumourBeds x, Due due) {
        int[] bits = {8, 16, 64};
        for (int s = 0; s < 3; s++) {
            x.sheet(s, bits[s], 2);
        }
        for (int s = 0; s < 3; s++) {
            for (int t = 0; t < 3; t++) {
                due.is("from " + bits[s] + " to " + bits[t], x.copy(s, 0, t, 0, 0), s == t ? 0 : Due.KIND);
            }
        }
        due.is("though there are not so many", x.copy(0, 0, 1, 0, 3), Due.KIND);
        due.is("counted", x.status(2), 7);
    }

    @Says(promise = 34, words = "BEYOND: one has not so many,")
    static void copyOfTooMany(RumourBeds x, Due due) {
        make(x, 0, 8, 1, 2, 3, 4, 5);
        make(x, 1, 8, 7, 8, 9);
        due.is("from the last on, two", x.copy(0, 4, 1, 0, 2), Due.BEYOND);
        due.is("to the last, two", x.copy(0, 0, 1, 2, 2), Due.BEYOND);
        due.is("more than one has", x.copy(0, 0, 1, 0, 4), Due.BEYOND);
        due.is("more than the other has", x.copy(1, 0, 0, 0, 4), Due.BEYOND);
        due.is("none, from too far on", x.copy(0, 6, 1, 0, 0), Due.BEYOND);
        due.is("none, to too far on", x.copy(0, 0, 1, 4, 0), Due.BEYOND);
        int most = Integer.MAX_VALUE;
        due.is("from as far on as can be", x.copy(0, most, 1, 0, 1), Due.BEYOND);
        due.is("to as far on as can be", x.copy(0, 0, 1, most, 1), Due.BEYOND);
        due.is("as many as can be", x.copy(0, 0, 1, 0, most), Due.BEYOND);
        due.is("all of it: from and n together wrap around", x.copy(0, most, 1, most, most), Due.BEYOND);
        due.is("from 1, n together wrap around", x.copy(0, 1, 1, 1, most), Due.BEYOND);
        due.is("counted", x.status(0), 11);
        isSheet(x, due, 0, "1 2 3 4 5", 5);
        isSheet(x, due, 1, "7 8 9", 3);
    }

    @Says(promise = 34, words = "or from, to or n is below 0.")
    static void copyBelowNought(RumourBeds x, Due due) {
        make(x, 0, 8, 1, 2, 3, 4, 5);
        make(x, 1, 8, 7, 8, 9);
        int least = Integer.MIN_VALUE;
        due.is("from", x.copy(0, -1, 1, 0, 1), Due.BEYOND);
        due.is("to", x.copy(0, 0, 1, -1, 1), Due.BEYOND);
        due.is("n", x.copy(0, 0, 1, 0, -1), Due.BEYOND);
        due.is("n, so that the end is no lower than 0", x.copy(0, 3, 1, 3, -1), Due.BEYOND);
        due.is("from, none", x.copy(0, -1, 1, 0, 0), Due.BEYOND);
        due.is("to, none", x.copy(0, 0, 1, -1, 0), Due.BEYOND);
        due.is("from as little as can be", x.copy(0, least, 1, 0, 1), Due.BEYOND);
        due.is("to as little as can be", x.copy(0, 0, 1, least, 1), Due.BEYOND);
        due.is("n as little as can be", x.copy(0, 0, 1, 0, least), Due.BEYOND);
        due.is("all", x.copy(0, least, 1, least, least), Due.BEYOND);
        due.is("counted", x.status(0), 10);
        isSheet(x, due, 0, "1 2 3 4 5", 5);
        isSheet(x, due, 1, "7 8 9", 3);
    }

    @Says(promise = 35, words = "Numbers of a sheet become LEANS of HOUSES 0, 1, ..")
    static void leansOfASheet(RumourBeds x, Due due) {
        make(x, 0, 8, 9, 0, 1, 2, 4, 5, 6, 7);
        due.is("eight came", x.lays(0), 8);
        int[] leans = {9, 0, 1, 2, 4, 5, 6, 7};
        for (int h = 0; h < 8; h++) {
            due.is("leans of " + h, x.houseOf(h, 2), leans[h]);
        }
        make(x, 1, 16, 8);
        due.is("one came", x.lays(1), 1);
        due.is("leans of 0", x.houseOf(0, 2), 8);
        due.is("leans of 1 stay", x.houseOf(1, 2), 0);
        isSheet(x, due, 1, "8", 1);
    }

    @Says(promise = 35, words = "(those that aren't 0 to 9,")
    static void leansThatMayNotBe(RumourBeds x, Due due) {
        make(x, 0, 64, 9, 10, -1, 0, 4294967296L, Long.MAX_VALUE, Long.MIN_VALUE, 4294967301L);
        due.is("two came", x.lays(0), 2);
        int[] leans = {9, 3, 3, 0, 3, 3, 3, 3};
        for (int h = 0; h < 8; h++) {
            due.is("leans of " + h, x.houseOf(h, 2), leans[h]);
        }
        make(x, 1, 8, 255, 128, 256 + 7);
        due.is("as they are in 8 bits", x.lays(1), 1);
        due.is("leans of 2", x.houseOf(2, 2), 7);
        due.is("no finding", x.status(-1), 0);
    }

    @Says(promise = 35, words = "or stand for none, are left out):")
    static void leansOfNoHouses(RumourBeds x, Due due) {
        x.sheet(0, 8, 40);
        for (int i = 0; i < 40; i++) {
            x.write(0, i, 5);
        }
        due.is("eight of forty came", x.lays(0), 8);
        due.is("leans of 7", x.houseOf(7, 2), 5);
        make(x, 1, 8, 4, 4, 4, 4, 4, 4, 4, 10, 4);
        due.is("seven of nine came", x.lays(1), 7);
        due.is("leans of 7 stay", x.houseOf(7, 2), 5);
    }

    @Says(promise = 35, words = "how many came.")
    static void howManyCame(RumourBeds x, Due due) {
        x.sheet(0, 64, 0);
        due.is("none of none", x.lays(0), 0);
        make(x, 0, 64, 10, 10);
        due.is("none of two", x.lays(0), 0);
        make(x, 0, 64, 3, 3);
        due.is("two, though they leant so", x.lays(0), 2);
    }

    @Says(promise = 35, words = "BEYOND: no such sheet.")
    static void laysOfNoSheet(RumourBeds x, Due due) {
        due.bounds(x, "sheet", x::lays, 0, 3);
    }

    @Says(promise = 35, words = "MISSING.")
    static void laysOfAMissingOne(RumourBeds x, Due due) {
        make(x, 0, 8, 9);
        x.sheet(0, 0, 0);
        String before = Towns.told(x);
        due.is("missing", x.lays(0), Due.MISSING);
        due.is("counted", x.status(5), 1);
        due.isAsBefore("lays", x, before);
    }

    @Says(promise = 36, words = "A book: LARDER of a HOUSE ON 0, 1, 2, .. DAYS comes to a sheet, as many as it has numbers:")
    static void aBook(RumourBeds x, Due due) {
        Towns.lodge(x, 0, 1, 0);
        x.sheet(0, 16, 40);
        String before = Towns.told(x);
        x.book(0, 0);
        due.isAsBefore("book", x, before);
        for (int n = 0; n < 40; n++) {
            due.is("on " + n, x.write(0, n, 0), x.larder(0, n));
        }
        x.sheet(1, 16, 3);
        x.book(1, 0);
        isSheet(x, due, 1, "50 48 46", 3);
        x.book(1, 7);
        isSheet(x, due, 1, "50 50 50", 3);
    }

    @Says(promise = 36, words = "A book: LARDER of a HOUSE ON 0, 1, 2, .. DAYS comes to a sheet, as many as it has numbers:")
    static void aBookOfEightBits(RumourBeds x, Due due) {
        Towns.lodge(x, 2, 1, 0);
        x.house(0, 1, 128);
        x.sheet(0, 8, 3);
        x.book(0, 0);
        isSheet(x, due, 0, "-128 127 126", 3);
        x.house(0, 1, 999);
        x.sheet(1, 64, 2);
        x.book(1, 0);
        isSheet(x, due, 1, "999 998", 2);
    }

    @Says(promise = 36, words = "how many.")
    static void howManyOfABook(RumourBeds x, Due due) {
        x.sheet(0, 8, 0);
        due.is("none", x.book(0, 0), 0);
        x.sheet(0, 8, 1);
        due.is("one", x.book(0, 0), 1);
        x.sheet(0, 64, 40);
        due.is("forty", x.book(0, 7), 40);
    }

    @Says(promise = 36, words = "BEYOND: no such sheet.")
    static void bookOfNoSheet(RumourBeds x, Due due) {
        due.bounds(x, "sheet", s -> x.book(s, 0), 0, 3);
    }

    @Says(promise = 36, words = "MISSING.")
    static void bookOfAMissingOne(RumourBeds x, Due due) {
        due.is("missing", x.book(0, 0), Due.MISSING);
        due.is("missing, no such house", x.book(0, -1), Due.MISSING);
        due.is("it stays so", x.write(0, 0, 0), Due.MISSING);
        due.is("counted", x.status(5), 3);
    }

    @Says(promise = 36, words = "BEYOND: house.")
    static void bookOfNoHouse(RumourBeds x, Due due) {
        x.sheet(0, 8, 2);
        due.bounds(x, "house", h -> x.book(0, h), 0, 7);
        make(x, 0, 8, 1, 2);
        x.book(0, 8);
        isSheet(x, due, 0, "1 2", 2);
        x.sheet(0, 8, 0);
        due.is("also when there is nothing to book", x.book(0, 8), Due.BEYOND);
    }

    @Says(promise = 37, words = "THE READER: numbers of a sheet are LARDERS of a HOUSE ON 0, 1, 2, .. DAYS:")
    static void aBookIsRead(RumourBeds x, Due due) {
        Towns.lodge(x, 0, 1, 0);
        make(x, 0, 16, 50, 46, 42);
        due.is("big", x.read(0, 0), 1);
        make(x, 0, 16, 50, 50, 50);
        due.is("wells", x.read(0, 0), 1);
        make(x, 0, 16, 49, 46, 42);
        due.is("big, but the first is now", x.read(0, 0), 0);
        make(x, 0, 16, 50, 46, 41);
        due.is("the last counts", x.read(0, 0), 0);
        make(x, 0, 16, 50, 45, 42);
        due.is("one between counts", x.read(0, 0), 0);
        x.sheet(0, 16, 40);
        x.book(0, 0);
        due.is("forty days tell plain from shy", x.read(0, 0), 1);
    }

    @Says(promise = 37, words = "how many pairs of a RUMOUR that lodges there and a KIND make it just so, were that of this KIND.")
    static void pairs(RumourBeds x, Due due) {
        Towns.lodge(x, 0, 1, 0);
        x.rumour(0, 2);
        make(x, 0, 16, 50, 48);
        String before = Towns.told(x);
        due.is("plain or shy", x.read(0, 0), 2);
        due.isAsBefore("read", x, before);
        due.is("nobody lodges there", x.read(0, 1), 0);
        x.sheet(0, 16, 0);
        due.is("any kind, by no numbers", x.read(0, 0), 6);
        due.is("of nobody none", x.read(0, 1), 0);
        make(x, 0, 16, 50);
        due.is("any kind, by what is now", x.read(0, 0), 6);
    }

    @Says(promise = 37, words = "how many pairs of a RUMOUR that lodges there and a KIND make it just so, were that of this KIND.")
    static void pairsOfTwo(RumourBeds x, Due due) {
        x.house(0, 0, 2);
        x.house(0, 1, 999);
        Towns.lodge(x, 2, 1, 0);
        Towns.lodge(x, 5, 2, 0);
        // As they are they eat 1 and 0.
        make(x, 0, 64, 999, 998);
        due.is("each as it is", x.read(0, 0), 2);
        make(x, 0, 64, 999, 997);
        due.is("the first plain or shy, or the second dull", x.read(0, 0), 3);
        make(x, 0, 64, 999, 996);
        due.is("the second plain or shy", x.read(0, 0), 2);
        make(x, 0, 64, 999, 999);
        due.is("the first as wells", x.read(0, 0), 1);
        make(x, 0, 64, 999, 991);
        due.is("the second royal", x.read(0, 0), 1);
        make(x, 0, 8, 999);
        due.is("999 is not in 8 bits", x.read(0, 0), 0);
        x.house(0, 0, 3);
        Towns.lodge(x, 0, 3, 0);
        x.sheet(0, 8, 0);
        due.is("three of six kinds", x.read(0, 0), 18);
    }

    @Says(promise = 37, words = "BEYOND: no such sheet.")
    static void readOfNoSheet(RumourBeds x, Due due) {
        due.bounds(x, "sheet", s -> x.read(s, 0), 0, 3);
    }

    @Says(promise = 37, words = "MISSING.")
    static void readOfAMissingOne(RumourBeds x, Due due) {
        due.is("missing", x.read(0, 0), Due.MISSING);
        due.is("missing, no such house", x.read(0, 8), Due.MISSING);
        due.is("counted", x.status(5), 2);
    }

    @Says(promise = 37, words = "BEYOND: house.")
    static void readOfNoHouse(RumourBeds x, Due due) {
        x.sheet(0, 8, 2);
        due.bounds(x, "house", h -> x.read(0, h), 0, 7);
        x.sheet(0, 8, 0);
        due.is("also when there is nothing to read", x.read(0, 8), Due.BEYOND);
    }
}
