/** The terms of the text of a town, and promises 29 to 31: feed, wipe, town. */
public final class TextTest {
    public static void main(String[] args) {
        Sentences.run(TextTest.class);
    }

    /** A text, told to a new town, has a fault at a place, and leaves that town as it was. */
    private static void fault(Due due, String text, int place) {
        RumourBeds x = new RumourBeds();
        String before = Towns.told(x);
        due.is("'" + text + "'", Towns.tell(x, text), -1 - place);
        due.isAsBefore("'" + text + "'", x, before);
        due.is("'" + text + "' status(-1)", x.status(-1), 0);
    }

    /** A text, told to a new town, has so many items. */
    private static RumourBeds told(Due due, String text, int items) {
        RumourBeds x = new RumourBeds();
        due.is("'" + text + "'", Towns.tell(x, text), items);
        return x;
    }

    @Says(words = "THE TEXT of a TOWN, from THE TAPE (bytes, at most 120).")
    static void theTapeIsFull(RumourBeds x, Due due) {
        // 110 bytes of blanks, and the text in the last ten.
        Towns.feed(x, " ".repeat(110) + "wells of 5");
        due.is("120 bytes", x.count(1), 120);
        due.is("one more", x.feed(' ', 1), Due.FULL);
        due.is("read to its last byte", x.town(), 1);
        due.is("its event", x.of(0, 1), 5);
        Towns.feed(x, " ".repeat(115) + "house");
        due.is("it ends too early", x.town(), -121);
        Towns.feed(x, " ".repeat(119) + "?");
        due.is("a fault in the last byte", x.town(), -120);
    }

    @Says(words = "TOKENS, each as long as can be:")
    static void tokensAsLongAsCanBe(RumourBeds x, Due due) {
        due.is("15, not 1 and 5", told(due, "true 15", 1).now(1), 32768);
        fault(due, "trues 1", 0);
        fault(due, "tru 1", 0);
        fault(due, "true1 5", 6);
        fault(due, "bigof 1", 0);
        fault(due, "big of 1in 2bulk 3", 12);
        due.is("words end at digits, and digits at words", told(due, "big of1bulk2in3", 1).of(0, 4), 3);
    }

    @Says(words = "WORDS (letters a to z),")
    static void letters(RumourBeds x, Due due) {
        // Behind z comes {, ahead of a is the backquote: neither is of a word, nor begins one.
        fault(due, "true{1", 4);
        fault(due, "true`1", 4);
        fault(due, "truez 1", 0);
        fault(due, "truea 1", 0);
        fault(due, "{true 1", 0);
        fault(due, "`true 1", 0);
        fault(due, "True 1", 0);
        fault(due, "trUe 1", 0);
        fault(due, "TRUE 1", 0);
        fault(due, "true_1", 4);
    }

    @Says(words = "NUMBERS (digits, 999 at most),")
    static void numbers(RumourBeds x, Due due) {
        due.is("the most", told(due, "house 0 larder 999", 1).houseOf(0, 1), 999);
        due.is("the least", told(due, "house 0 larder 0", 1).houseOf(0, 1), 0);
        due.is("with noughts ahead", told(due, "house 0 larder 0000000000999", 1).houseOf(0, 1), 999);
        fault(due, "house 0 larder 1000", 15);
        fault(due, "house 0 larder 9990", 15);
        fault(due, "true 1000", 5);
        // Those would wrap around to 0 or 1.
        fault(due, "true 65536", 5);
        fault(due, "true 4294967296", 5);
        fault(due, "true 4294967297", 5);
        fault(due, "true 18446744073709551617", 5);
        fault(due, "house 0 larder 99999999999999999999999999999999999999999", 15);
        // Ahead of 0 is /, behind 9 comes the colon.
        fault(due, "true 1/", 6);
        fault(due, "true 1:", 6);
        fault(due, "true /", 5);
        fault(due, "true :", 5);
        fault(due, "true -1", 5);
        fault(due, "true +1", 5);
        fault(due, "true 1.5", 6);
    }

    @Says(words = "SIGN ;")
    static void sign(RumourBeds x, Due due) {
        due.is("between items", told(due, "true 1;true 2", 2).now(1), 6);
        fault(due, "true 1,true 2", 6);
        fault(due, "true 1:true 2", 6);
        fault(due, "true 1<true 2", 6);
        fault(due, "true;1", 4);
    }

    @Says(words = "blanks may stand between.")
    static void blanks(RumourBeds x, Due due) {
        told(due, "true1;big of2bulk3in4;house5beds1larder2leans3", 3);
        told(due, "   true   1   ;   true   2   ", 2);
        fault(due, "tr ue 1", 0);
        fault(due, "true 1 5", 7);
        fault(due, "true\t1", 4);
        fault(due, "true 1\n", 6);
        fault(due, "true 1\0", 6);
        fault(due, "true\u00a01", 4);
        fault(due, "true\u001f1", 4);
        fault(due, "true!1", 4);
    }

    @Says(words = "TEXT: ITEM { ; ITEM }.")
    static void itemsAndSigns(RumourBeds x, Due due) {
        told(due, "true 1", 1);
        told(due, "true 1;true 1;true 1", 3);
        StringBuilder most = new StringBuilder("true0");
        for (int i = 1; i < 20; i++) {
            most.append(";true0");
        }
        told(due, most.toString(), 20);
        fault(due, "", 0);
        fault(due, "   ", 3);
        fault(due, ";", 0);
        fault(due, ";true 1", 0);
        fault(due, "true 1;", 7);
        fault(due, "true 1; ", 8);
        fault(due, "true 1;;true 2", 7);
        fault(due, "true 1 true 2", 7);
    }

    @Says(words = "ITEM: the name of a KIND (rumour big dull shy royal wells), of, a NUMBER (an EVENT),")
    static void namesOfKinds(RumourBeds x, Due due) {
        String[] names = {"rumour", "big", "dull", "shy", "royal", "wells"};
        for (int kind = 0; kind < 6; kind++) {
            due.is(names[kind], Towns.tell(x, names[kind] + " of " + (10 + kind)), 1);
            due.is("its kind", x.of(kind, 0), kind);
            due.is("its event", x.of(kind, 1), 10 + kind);
            due.is("its bulk", x.of(kind, 2), 10);
            due.is("its age", x.of(kind, 3), 0);
            due.is("on the road", x.of(kind, 4), -1);
        }
        due.is("the least event", told(due, "shy of 0", 1).of(0, 1), 0);
        due.is("the greatest", told(due, "shy of 15", 1).of(0, 1), 15);
        fault(due, "shy of 16", 7);
        fault(due, "shy of", 6);
        fault(due, "shy", 3);
        fault(due, "shy 1", 4);
        fault(due, "shy of of 1", 7);
        fault(due, "rumours of 1", 0);
        fault(due, "well of 1", 0);
    }

    @Says(words = "perhaps bulk and a NUMBER (0 to 99),")
    static void perhapsBulk(RumourBeds x, Due due) {
        due.is("0", told(due, "big of 1 bulk 0", 1).of(0, 2), 0);
        due.is("99", told(due, "big of 1 bulk 99", 1).of(0, 2), 99);
        due.is("none", told(due, "big of 1", 1).of(0, 2), 10);
        fault(due, "big of 1 bulk 100", 14);
        fault(due, "big of 1 bulk", 13);
        fault(due, "big of 1 bulk in 1", 14);
        fault(due, "big of 1 bulk 1 bulk 1", 16);
        fault(due, "big of 1 5", 9);
    }

    @Says(words = "perhaps in and a NUMBER (a HOUSE with a BED free),")
    static void perhapsIn(RumourBeds x, Due due) {
        due.is("0", told(due, "big of 1 in 0", 1).of(0, 4), 0);
        due.is("7", told(due, "big of 1 in 7", 1).of(0, 4), 7);
        due.is("behind bulk", told(due, "big of 1 bulk 33 in 7", 1).of(0, 4), 7);
        fault(due, "big of 1 in 8", 12);
        fault(due, "big of 1 in", 11);
        fault(due, "big of 1 in in", 12);
        fault(due, "big of 1 in 0 bulk 1", 14);
        fault(due, "big of 1 in 0 in 1", 14);
        fault(due, "big of 1 in 3;big of 2 in 3", 26);
    }

    @Says(words = "perhaps in and a NUMBER (a HOUSE with a BED free),")
    static void inWhereABedIsFree(RumourBeds x, Due due) {
        due.is("beds told first", Towns.tell(x, "house 3 beds 2;big of 1 in 3;dull of 1 in 3"), 3);
        due.is("both lodge", x.houseOf(3, 3), 3);
        due.is("no more", Towns.tell(x, "big of 2 in 3"), -13);
        due.is("true frees the beds", Towns.tell(x, "true 1;big of 2 in 3"), 2);
        due.is("that one lodges", x.houseOf(3, 3), 4);
        due.is("beds taken away first", Towns.tell(x, "house 5 beds 0;big of 2 in 5"), -28);
        due.is("fewer beds than lodge there", Towns.tell(x, "house 3 beds 0;big of 2 in 3"), -28);
    }

    /** The words ask for a free bed alone: not that it leans so far, nor that the event isn't true. */
    @Says(words = "perhaps in and a NUMBER (a HOUSE with a BED free),")
    static void inWhoeverLeans(RumourBeds x, Due due) {
        due.is("it leans not so far", Towns.tell(x, "house 2 leans 0;wells of 1 in 2"), 2);
        due.is("there", x.of(0, 4), 2);
        due.is("its event is true", Towns.tell(x, "true 4;dull of 4 in 3"), 2);
        due.is("there", x.of(1, 4), 3);
    }

    @Says(words = "else on the ROAD: one more;")
    static void elseOnTheRoad(RumourBeds x, Due due) {
        x.rumour(0, 0);
        due.is("two", Towns.tell(x, "big of 1;dull of 2 bulk 5"), 2);
        due.is("three now", x.count(0), 3);
        due.is("on the road", x.now(2), 7);
        due.is("by their order", x.of(1, 0), 1);
        due.is("by their order", x.of(2, 0), 2);
    }

    @Says(words = "house, a NUMBER (0 to 7),")
    static void houses(RumourBeds x, Due due) {
        due.is("the first", told(due, "house 0 beds 3", 1).houseOf(0, 0), 3);
        due.is("the last", told(due, "house 7 beds 3", 1).houseOf(7, 0), 3);
        fault(due, "house 8", 6);
        fault(due, "house", 5);
        fault(due, "house beds 1", 6);
        fault(due, "house 1 1", 8);
        fault(due, "houses 1", 0);
        String before = Towns.told(x);
        due.is("nothing told of it", Towns.tell(x, "house 3"), 1);
        due.isAsBefore("house 3", x, before);
    }

    @Says(words = "perhaps beds and a NUMBER (0 to 3),")
    static void perhapsBeds(RumourBeds x, Due due) {
        due.is("0", told(due, "house 4 beds 0", 1).houseOf(4, 0), 0);
        due.is("3", told(due, "house 4 beds 3", 1).houseOf(4, 0), 3);
        fault(due, "house 4 beds 4", 13);
        fault(due, "house 4 beds", 12);
        fault(due, "house 4 beds 1 beds 1", 15);
    }

    @Says(words = "perhaps larder and a NUMBER (0 to 999),")
    static void perhapsLarder(RumourBeds x, Due due) {
        due.is("0", told(due, "house 4 larder 0", 1).houseOf(4, 1), 0);
        due.is("999", told(due, "house 4 larder 999", 1).houseOf(4, 1), 999);
        due.is("behind beds", told(due, "house 4 beds 2 larder 7", 1).houseOf(4, 1), 7);
        fault(due, "house 4 larder 1000", 15);
        fault(due, "house 4 larder", 14);
        fault(due, "house 4 larder 1 beds 1", 17);
        fault(due, "house 4 larder 1 larder 1", 17);
    }

    @Says(words = "perhaps leans and a NUMBER (0 to 9);")
    static void perhapsLeans(RumourBeds x, Due due) {
        due.is("0", told(due, "house 4 leans 0", 1).houseOf(4, 2), 0);
        due.is("9", told(due, "house 4 leans 9", 1).houseOf(4, 2), 9);
        RumourBeds y = told(due, "house 4 beds 0 larder 1 leans 2", 1);
        due.is("beds", y.houseOf(4, 0), 0);
        due.is("larder", y.houseOf(4, 1), 1);
        due.is("leans", y.houseOf(4, 2), 2);
        due.is("of another house", y.houseOf(3, 2), 3);
        fault(due, "house 4 leans 10", 14);
        fault(due, "house 4 leans", 13);
        fault(due, "house 4 leans 1 beds 1", 16);
        fault(due, "house 4 leans 1 larder 1", 16);
        fault(due, "house 4 leans 1 leans 1", 16);
        fault(due, "house 4 bulk 1", 8);
        fault(due, "house 4 in 1", 8);
    }

    @Says(words = "true, a NUMBER (an EVENT): that comes TRUE.")
    static void trueItem(RumourBeds x, Due due) {
        x.house(3, 0, 2);
        Towns.lodge(x, 0, 15, 3);
        Towns.lodge(x, 0, 1, 3);
        due.is("the greatest and the least", Towns.tell(x, "true 15;true 0"), 2);
        due.is("they are true", x.now(1), 32769);
        due.is("all of it leave", x.houseOf(3, 3), 2);
        due.is("again", Towns.tell(x, "true 15"), 1);
        fault(due, "true 16", 5);
        fault(due, "true", 4);
        fault(due, "true true", 5);
        fault(due, "true ;", 5);
    }

    @Says(words = "FAULT: the place (from 0) of the first byte of the first TOKEN that can't stand there")
    static void firstOfFaults(RumourBeds x, Due due) {
        fault(due, "true 16;?", 5);
        fault(due, "x", 0);
        fault(due, "  xyz", 2);
        fault(due, "house 1;true 1;house 9 beds 9", 21);
        fault(due, "house 0 beds 1 larder 1 leans 1 x", 32);
        fault(due, "big of 1 bulk 1 in 1 x", 21);
        fault(due, "true 1 x", 7);
    }

    @Says(words = "(a NUMBER that may not be,")
    static void aNumberThatMayNotBe(RumourBeds x, Due due) {
        fault(due, "big of 16", 7);
        fault(due, "big of 1 bulk 100", 14);
        fault(due, "big of 1 in 8", 12);
        fault(due, "house 8", 6);
        fault(due, "house 1 beds 4", 13);
        fault(due, "house 1 larder 1000", 15);
        fault(due, "house 1 leans 10", 14);
        fault(due, "true 16", 5);
        fault(due, "16", 0);
        fault(due, "big 1", 4);
    }

    @Says(words = "another WORD,")
    static void anotherWord(RumourBeds x, Due due) {
        fault(due, "of 1", 0);
        fault(due, "town 1", 0);
        fault(due, "big off 1", 4);
        fault(due, "big in 1", 4);
        fault(due, "big of one", 7);
        fault(due, "big of 1 into 1", 9);
        fault(due, "big of 1 big of 2", 9);
        fault(due, "house one", 6);
        fault(due, "house 1 bed 1", 8);
        fault(due, "true one", 5);
    }

    @Says(words = "another WORD,")
    static void wordsWithAnotherLetter(RumourBeds x, Due due) {
        String[] words = {"rumour", "big", "dull", "shy", "royal", "wells", "house", "true"};
        for (String word : words) {
            fault(due, "q" + word.substring(1) + " of 1", 0);
            fault(due, word.substring(0, word.length() - 1) + "q of 1", 0);
        }
        fault(due, "big qf 1", 4);
        fault(due, "big oq 1", 4);
        fault(due, "big of 1 qulk 2", 9);
        fault(due, "big of 1 bulq 2", 9);
        fault(due, "big of 1 qn 2", 9);
        fault(due, "big of 1 iq 2", 9);
        fault(due, "house 1 qeds 2", 8);
        fault(due, "house 1 bedq 2", 8);
        fault(due, "house 1 qarder 2", 8);
        fault(due, "house 1 lardeq 2", 8);
        fault(due, "house 1 qeans 2", 8);
        fault(due, "house 1 leanq 2", 8);
    }

    @Says(words = "a byte that begins no TOKEN,")
    static void aByteThatBeginsNoToken(RumourBeds x, Due due) {
        fault(due, "?", 0);
        fault(due, "\0", 0);
        fault(due, "\u00ff", 0);
        fault(due, "true \u00e1", 5);
        fault(due, "true 1 \u00bb", 7);
        fault(due, "true 1;\u007f", 7);
        fault(due, "big? of 1", 3);
        fault(due, "big of 1 bulk ~", 14);
    }

    @Says(words = "the name of a KIND for an 11th: its own),")
    static void theNameForAnEleventh(RumourBeds x, Due due) {
        Towns.fill(x, 9, 0);
        due.is("a tenth and an eleventh", Towns.tell(x, "big of 1; shy of 1"), -11);
        due.is("none came", x.count(0), 9);
        due.is("a tenth", Towns.tell(x, "big of 1"), 1);
        due.is("its own place, whatever is behind it", Towns.tell(x, "  big ?"), -3);
        due.is("houses and events still", Towns.tell(x, "house 2;true 1"), 2);
        due.is("another word at its own place", Towns.tell(x, "house 2;bug of 1"), -9);
        due.is("no finding", x.status(-1), 0);
    }

    @Says(words = "or how many bytes there are if it ends too early.")
    static void itEndsTooEarly(RumourBeds x, Due due) {
        String[] texts = {"", " ", "big", "big ", "big of", "big of 1 bulk", "big of 1 in", "big of 1 bulk 1 in  ", "house",
            "house 1 beds", "house 1 larder ", "house 1 beds 1 leans", "true", "true 1;", "true 1;house 2;big"};
        for (String text : texts) {
            fault(due, text, text.length());
        }
    }

    @Says(promise = 29, words = "THE TAPE gets the n lowest bytes of a number behind it, the highest of these first (n 1 to 4):")
    static void bytesOfANumber(RumourBeds x, Due due) {
        x.feed(0x61627472, 2);
        x.feed(0x7a7a7565, 2);
        x.feed(0xffffff31, 1);
        x.feed(0x7f3b7472, 3);
        x.feed(0x75652032, 4);
        due.is("true1;true 2", x.town(), 2);
        due.is("1 and 2", x.now(1), 6);
        // 't' and '1', but for the highest bit.
        x.feed(0xf4727565, 4);
        due.is("the highest bit of the highest byte", x.town(), -1);
        x.feed(0x74727565, 4);
        x.feed(0xb1, 1);
        due.is("and of the lowest", x.town(), -5);
    }

    @Says(promise = 29, words = "how many it has.")
    static void howManyItHas(RumourBeds x, Due due) {
        due.is("1", x.feed(0, 1), 1);
        due.is("2 more", x.feed(0, 2), 3);
        due.is("3 more", x.feed(0, 3), 6);
        due.is("4 more", x.feed(0, 4), 10);
        due.is("counted", x.count(1), 10);
    }

    @Says(promise = 29, words = "BEYOND: n.")
    static void feedOfNoN(RumourBeds x, Due due) {
        due.bounds(x, "n", n -> x.feed(0x20202020, n), 1, 4);
        due.is("five bytes", x.count(1), 5);
    }

    @Says(promise = 29, words = "FULL.")
    static void feedWhenFull(RumourBeds x, Due due) {
        Towns.feed(x, " ".repeat(117));
        due.is("four are too many", x.feed(0, 4), Due.FULL);
        due.is("none of them came", x.count(1), 117);
        due.is("three aren't", x.feed(0x742020, 3), 120);
        due.is("one is", x.feed(0, 1), Due.FULL);
        due.is("still", x.count(1), 120);
        due.is("counted", x.status(1), 2);
        due.is("wipe", x.wipe(), 120);
        due.is("room again", x.feed(0, 4), 4);
    }

    @Says(promise = 30, words = "THE TAPE is empty:")
    static void wiped(RumourBeds x, Due due) {
        Towns.feed(x, "true 1;");
        x.wipe();
        due.is("bytes", x.count(1), 0);
        due.is("nothing of it is left", Towns.tell(x, "true 2"), 1);
        due.is("2 alone", x.now(1), 4);
        due.is("the first byte has place 0", Towns.tell(x, "?"), -1);
    }

    @Says(promise = 30, words = "how many it had.")
    static void howManyItHad(RumourBeds x, Due due) {
        due.is("none", x.wipe(), 0);
        x.feed(0, 1);
        due.is("1", x.wipe(), 1);
        due.is("none", x.wipe(), 0);
        Towns.feed(x, "x".repeat(120));
        due.is("120", x.wipe(), 120);
    }

    @Says(promise = 31, words = "THE TAPE is THE TEXT of a TOWN, whose ITEMS come to what there is,")
    static void itemsComeToWhatThereIs(RumourBeds x, Due due) {
        x.rumour(0, 3);
        x.house(4, 1, 77);
        x.days(2);
        x.comesTrue(9);
        due.is("items", Towns.tell(x, "dull of 2 in 3;house 4 leans 6;true 3"), 3);
        due.is("one more", x.count(0), 2);
        due.is("in 3", x.of(1, 4), 3);
        due.is("the larder is as it was", x.houseOf(4, 1), 77);
        due.is("leans", x.houseOf(4, 2), 6);
        due.is("the first one left", x.of(0, 4), -1);
        due.is("day is as it was", x.now(0), 2);
        due.is("true", x.now(1), 8 + 512);
    }

    @Says(promise = 31, words = "THE TAPE is THE TEXT of a TOWN, whose ITEMS come to what there is,")
    static void itemsComeOneBehindTheOther(RumourBeds x, Due due) {
        due.is("items", Towns.tell(x, "house 1 beds 3;house 1 beds 2 larder 9;big of 4 in 1;true 4;house 1 larder 8"), 5);
        due.is("beds", x.houseOf(1, 0), 2);
        due.is("larder", x.houseOf(1, 1), 8);
        due.is("the big one left", x.of(0, 4), -1);
    }

    @Says(promise = 31, words = "and empty then:")
    static void emptyThen(RumourBeds x, Due due) {
        Towns.tell(x, "true 1");
        due.is("bytes", x.count(1), 0);
        due.is("again", x.town(), -1);
        due.is("the first byte has place 0", Towns.tell(x, "?"), -1);
        due.is("true 1 stays", x.now(1), 2);
    }

    @Says(promise = 31, words = "how many ITEMS.")
    static void howManyItems(RumourBeds x, Due due) {
        due.is("1", Towns.tell(x, "house 1"), 1);
        due.is("4", Towns.tell(x, "house 1;house 1;true 1;true 1"), 4);
    }

    @Says(promise = 31, words = "With a FAULT: -1 less its place")
    static void minusOneLessItsPlace(RumourBeds x, Due due) {
        due.is("place 0", Towns.tell(x, "?"), -1);
        due.is("place 1", Towns.tell(x, " ?"), -2);
        due.is("place 119", Towns.tell(x, " ".repeat(119) + "?"), -120);
        due.is("place 120", Towns.tell(x, " ".repeat(120)), -121);
    }

    @Says(promise = 31, words = "(nothing changes but that THE TAPE is empty;")
    static void aFaultChangesNothing(RumourBeds x, Due due) {
        Towns.lodge(x, 0, 1, 0);
        x.rumour(0, 2);
        String before = Towns.told(x);
        due.is("a fault at the end", Towns.tell(x, "true 1;house 0 beds 3 larder 7 leans 9;shy of 2 in 0 x"), -54);
        due.isAsBefore("a fault", x, before);
        due.is("the tape is empty", x.count(1), 0);
        due.is("its bed is taken still", x.takes(0, 1), 0);
        x.image();
        due.is("another", Towns.tell(x, "true 1;true 1;"), -15);
        due.isAsBefore("a fault", x, before);
        x.undo();
        due.isAsBefore("a fault and undo", x, before);
    }

    @Says(promise = 31, words = "no finding).")
    static void aFaultIsNoFinding(RumourBeds x, Due due) {
        x.town();
        Towns.tell(x, "house 9");
        Towns.tell(x, "??");
        due.is("none", x.status(-1), 0);
    }
}
