/** Edges of promises 24 to 29: books and films, sheets and their items. */
final class SheetsEdges {
    private static final int BAD = -1, NOT = -2, NONE = -4, NULL = -11, CAST = -12, INDEX = -13, SIZE = -14;
    private static final int LOWEST = Integer.MIN_VALUE, HIGHEST = Integer.MAX_VALUE;
    private static final int[] NO_SHEET = {-1, 4, LOWEST, HIGHEST};
    private static final int[] NO_LANE = {-1, 3, LOWEST, HIGHEST};
    private static final int SCRATCH = 3;

    private SheetsEdges() {
    }

    private static void fill(MeanTown x, int sheet, int lane, int... items) {
        x.sheet(sheet, lane, items.length);
        for (int k = 0; k < items.length; k++) {
            x.item(sheet, lane, k, items[k]);
        }
    }

    /** A town of one gate, of whose books two items are alike or not. */
    private static void becomeOneGate(MeanTown x) {
        Due.write(x, "g0");
        x.town();
    }

    /** The items from one on are as told; takes the town away, and the last sheet for its own. */
    private static void itemsAre(Due due, MeanTown x, int sheet, int lane, int from, int... items) {
        becomeOneGate(x);
        x.sheet(SCRATCH, lane, 2);
        for (int k = 0; k < items.length; k++) {
            x.copy(sheet, from + k, SCRATCH, 0, 1);
            x.item(SCRATCH, lane, 1, items[k]);
            due.is("item " + (from + k) + " is " + items[k], x.book(SCRATCH, lane, 0), NONE);
        }
    }

    private static MeanTown twoHouses() {
        return Due.townOf("g10,p20;01=1");
    }

    // ---- promise 24: book

    @Sentence(promise = 24, says = "A BOOK: what all HOUSES ASK in one YEAR, and then in the next, items of a SHEET, taken as a row of a LANE, from item i on")
    static void bookAtTheBeginningAndTheEnd(Due due) {
        for (int lane = 0; lane <= 2; lane++) {
            MeanTown x = twoHouses();
            fill(x, 0, lane, 7, 3, 7, 7, 9, 9);
            due.is("from 0 on", x.book(0, lane, 0), NONE);
            due.is("from 1 on", x.book(0, lane, 1), 0);
            due.is("up to the end", x.book(0, lane, 2), 0);
            fill(x, 0, lane, 0, 0, 5, 9, 5, 5);
            due.is("up to the end, all did", x.book(0, lane, 2), NONE);
        }
    }

    @Sentence(promise = 24, says = "the first HOUSE that did not ask in the second as by A YEAR it would")
    static void firstAndLastHouseDidNot(Due due) {
        MeanTown x = Due.townOf("p0,p0,p0,p0,p0,p0,p0,p0;01=1,67=1");
        x.sheet(0, 0, 16);
        due.is("all of eight", x.book(0, 0, 0), NONE);
        x.item(0, 0, 15, 1);
        due.is("the last", x.book(0, 0, 0), 7);
        x.item(0, 0, 8, 1);
        due.is("the first", x.book(0, 0, 0), 0);
    }

    @Sentence(promise = 24, says = "askings of all HOUSES in one YEAR, and in the next")
    static void bookIsOfItsOwnAskings(Due due) {
        MeanTown x = Due.townOf("g1,p2,c3,f4;01=1,12=1,23=2");
        x.set(2, 1, 30);
        fill(x, 0, 1, 50, 0, 0, 60, 50, 25, 30, 60);
        due.is("all did", x.book(0, 1, 0), NONE);
        x.item(0, 1, 6, 40);
        due.is("over its cap", x.book(0, 1, 0), 2);
        x.item(0, 1, 4, 51);
        due.is("a gate", x.book(0, 1, 0), 0);
    }

    @Sentence(promise = 24, says = "as by A YEAR it would")
    static void bookOfFixedOnesAndThoseWithoutWeight(Due due) {
        MeanTown x = Due.townOf("g1,f2,p3,c4");
        x.set(3, 1, 0);
        fill(x, 0, 2, 10, 20, 30, 40, 10, 20, 30, 40);
        due.is("all ask the same", x.book(0, 2, 0), NONE);
        for (int h = 3; h >= 0; h--) {
            x.item(0, 2, 4 + h, 0);
            due.is("but " + h, x.book(0, 2, 0), h);
        }
    }

    @Sentence(promise = 24, says = "BAD")
    static void bookOfNoSheet(Due due) {
        MeanTown x = twoHouses();
        for (int no : NO_SHEET) {
            due.is("sheet " + no, x.book(no, 0, 0), BAD);
        }
    }

    @Sentence(promise = 24, says = "BAD")
    static void bookOfNoLane(Due due) {
        MeanTown x = twoHouses();
        x.sheet(0, 0, 4);
        for (int no : NO_LANE) {
            due.is("lane " + no, x.book(0, no, 0), BAD);
        }
    }

    @Sentence(promise = 24, says = "NULL")
    static void bookOfAMissingSheet(Due due) {
        MeanTown x = twoHouses();
        for (int lane = 0; lane <= 2; lane++) {
            for (int s = 0; s <= 3; s++) {
                due.is("never there", x.book(s, lane, 0), NULL);
            }
        }
        x.sheet(0, 0, 4);
        x.drop(0);
        due.is("dropped", x.book(0, 0, 0), NULL);
        due.is("dropped, as of another lane", x.book(0, 1, 0), NULL);
    }

    @Sentence(promise = 24, says = "CAST")
    static void bookOfAnotherLane(Due due) {
        for (int lane = 0; lane <= 2; lane++) {
            MeanTown x = twoHouses();
            x.sheet(0, lane, 4);
            for (int other = 0; other <= 2; other++) {
                due.is("lane " + lane + " as " + other, x.book(0, other, 0), other == lane ? NONE : CAST);
            }
        }
    }

    @Sentence(promise = 24, says = "INDEX")
    static void bookBeyondTheRow(Due due) {
        MeanTown x = twoHouses();
        x.sheet(0, 0, 6);
        due.is("just there", x.book(0, 0, 2), NONE);
        for (int far : new int[] {-1, 3, 5, 6, 7, LOWEST, HIGHEST, HIGHEST - 3}) {
            due.is("from " + far, x.book(0, 0, far), INDEX);
        }
        x.sheet(0, 0, 3);
        due.is("a row too short", x.book(0, 0, 0), INDEX);
        x.sheet(0, 0, 0);
        due.is("an empty row", x.book(0, 0, 0), INDEX);
    }

    @Sentence(promise = 24, says = "NOT: one is not 0 .. 99")
    static void bookOfAskingsTooSmallOrTooLarge(Due due) {
        for (int place = 0; place < 4; place++) {
            for (long no : new long[] {-1, 100, 1L << 32, Long.MIN_VALUE, Long.MAX_VALUE}) {
                MeanTown x = twoHouses();
                fill(x, 0, 2, 0, 0, 0, 0, 0);
                x.item(0, 2, place, no);
                due.is(no + " at " + place, x.book(0, 2, 0), NOT);
            }
        }
    }

    @Sentence(promise = 24, says = "NOT: one is not 0 .. 99")
    static void bookOfEightWithOneWrongAsking(Due due) {
        MeanTown x = Due.townOf("p0,p0,p0,p0,p0,p0,p0,p0");
        x.sheet(0, 0, 16);
        for (int place = 0; place < 16; place++) {
            x.item(0, 0, place, 100);
            due.is("100 at " + place, x.book(0, 0, 0), NOT);
            x.item(0, 0, place, 0);
        }
        due.is("none is wrong", x.book(0, 0, 0), NONE);
    }

    @Sentence(promise = 24, says = "NOT: one is not 0 .. 99")
    static void bookOfBytesAndShortsBelow0(Due due) {
        for (int lane = 0; lane <= 1; lane++) {
            MeanTown x = twoHouses();
            fill(x, 0, lane, 0, 0, 0, -1);
            due.is("-1", x.book(0, lane, 0), NOT);
            fill(x, 0, lane, 100, 0, 0, 0);
            due.is("100", x.book(0, lane, 0), NOT);
        }
    }

    @Sentence(promise = 24, says = "NOT: one is not 0 .. 99")
    static void leastAndMostAskingOfABook(Due due) {
        MeanTown x = Due.townOf("g0,p0;01=1");
        fill(x, 0, 0, 99, 0, 99, 99);
        due.is("0 and 99", x.book(0, 0, 0), NONE);
    }

    @Sentence(promise = 24, says = "NOT: one is not 0 .. 99")
    static void itemsBesideTheBookDontCount(Due due) {
        MeanTown x = twoHouses();
        fill(x, 0, 1, -1, 0, 0, 0, 0, 100);
        due.is("from 1 on", x.book(0, 1, 1), NONE);
    }

    @Sentence(promise = 24, says = "NONE: all did")
    static void allAskedAsTheyWould(Due due) {
        MeanTown x = twoHouses();
        x.sheet(2, 1, 4);
        x.film(2, 1, 0);
        x.year();
        x.film(2, 1, 2);
        due.is("two years of the town itself", x.book(2, 1, 0), NONE);
    }

    @Sentence(promise = 24, says = "of several the first that a call names")
    static void bookOrderOfRefusals(Due due) {
        MeanTown x = twoHouses();
        due.is("BAD lane ahead of NULL", x.book(0, 3, -1), BAD);
        due.is("NULL ahead of INDEX", x.book(0, 0, -1), NULL);
        fill(x, 0, 0, 100, 0, 0, 0);
        due.is("BAD lane ahead of CAST", x.book(0, 3, 9), BAD);
        due.is("CAST ahead of INDEX", x.book(0, 1, 9), CAST);
        due.is("CAST ahead of NOT", x.book(0, 1, 0), CAST);
        due.is("INDEX ahead of NOT", x.book(0, 0, 1), INDEX);
        fill(x, 0, 0, 0, 0, 1, 100);
        due.is("NOT ahead of the first that did not", x.book(0, 0, 0), NOT);
    }

    @Sentence(promise = 24, says = "INDEX")
    static void bookWithoutHousesNeedsARow(Due due) {
        MeanTown x = new MeanTown();
        due.is("no row", x.book(0, 0, 0), NULL);
        x.sheet(0, 0, 0);
        due.is("another lane", x.book(0, 1, 0), CAST);
        due.is("nothing to ask", x.book(0, 0, 0), NONE);
    }

    @Sentence(promise = 24, says = "What is refused changes nothing")
    static void bookChangesNothing(Due due) {
        due.changesNothing(Due::rich, x -> {
            x.book(0, 0, 0);
            x.book(0, 1, 0);
            x.book(0, 0, 1);
            x.book(3, 0, 0);
            x.book(4, 0, 0);
        });
    }

    // ---- promise 25: film

    @Sentence(promise = 25, says = "What all HOUSES ASK comes to a SHEET likewise: how many")
    static void filmAtTheBeginningAndTheEnd(Due due) {
        for (int lane = 0; lane <= 2; lane++) {
            MeanTown x = Due.townOf("g99,p0,f7");
            fill(x, 0, lane, 1, 2, 3, 4, 5, 6, 7);
            due.is("from 0 on", x.film(0, lane, 0), 3);
            due.is("up to the end", x.film(0, lane, 4), 3);
            itemsAre(due, x, 0, lane, 0, 99, 0, 7, 4, 99, 0, 7);
        }
    }

    @Sentence(promise = 25, says = "how many")
    static void filmOfNoneAndOfEight(Due due) {
        MeanTown x = new MeanTown();
        x.sheet(0, 0, 0);
        due.is("none", x.film(0, 0, 0), 0);
        for (int h = 0; h < 8; h++) {
            x.house(0, h + 1);
        }
        x.sheet(0, 0, 8);
        due.is("eight", x.film(0, 0, 0), 8);
        itemsAre(due, x, 0, 0, 0, 1, 2, 3, 4, 5, 6, 7, 8);
    }

    @Sentence(promise = 25, says = "BAD")
    static void filmToNoSheet(Due due) {
        MeanTown x = twoHouses();
        for (int no : NO_SHEET) {
            due.is("sheet " + no, x.film(no, 0, 0), BAD);
        }
    }

    @Sentence(promise = 25, says = "BAD")
    static void filmToNoLane(Due due) {
        MeanTown x = twoHouses();
        x.sheet(0, 0, 4);
        for (int no : NO_LANE) {
            due.is("lane " + no, x.film(0, no, 0), BAD);
        }
    }

    @Sentence(promise = 25, says = "NULL")
    static void filmToAMissingSheet(Due due) {
        MeanTown x = twoHouses();
        for (int lane = 0; lane <= 2; lane++) {
            for (int s = 0; s <= 3; s++) {
                due.is("never there", x.film(s, lane, 0), NULL);
            }
        }
        x.sheet(0, 0, 4);
        x.drop(0);
        due.is("dropped", x.film(0, 0, 0), NULL);
        due.is("dropped, as of another lane", x.film(0, 1, 0), NULL);
    }

    @Sentence(promise = 25, says = "CAST")
    static void filmToAnotherLane(Due due) {
        for (int lane = 0; lane <= 2; lane++) {
            MeanTown x = twoHouses();
            x.sheet(0, lane, 4);
            for (int other = 0; other <= 2; other++) {
                due.is("lane " + lane + " as " + other, x.film(0, other, 0), other == lane ? 2 : CAST);
            }
        }
    }

    @Sentence(promise = 25, says = "INDEX")
    static void filmBeyondTheRow(Due due) {
        MeanTown x = twoHouses();
        x.sheet(0, 0, 4);
        due.is("just there", x.film(0, 0, 2), 2);
        for (int far : new int[] {-1, 3, 4, 5, LOWEST, HIGHEST, HIGHEST - 1}) {
            due.is("from " + far, x.film(0, 0, far), INDEX);
        }
        x.sheet(0, 0, 1);
        due.is("a row too short", x.film(0, 0, 0), INDEX);
        x.sheet(0, 0, 0);
        due.is("an empty row", x.film(0, 0, 0), INDEX);
    }

    @Sentence(promise = 25, says = "of several the first that a call names")
    static void filmOrderOfRefusals(Due due) {
        MeanTown x = twoHouses();
        due.is("BAD lane ahead of NULL", x.film(0, 3, -1), BAD);
        due.is("NULL ahead of INDEX", x.film(0, 0, -1), NULL);
        x.sheet(0, 0, 4);
        due.is("BAD lane ahead of CAST", x.film(0, 3, 9), BAD);
        due.is("CAST ahead of INDEX", x.film(0, 1, 9), CAST);
    }

    @Sentence(promise = 25, says = "What is refused changes nothing")
    static void refusedFilmWritesNothing(Due due) {
        for (int lane = 0; lane <= 2; lane++) {
            MeanTown x = Due.townOf("g50,g60,g70");
            fill(x, 0, lane, 1, 2, 3, 4);
            x.film(0, lane, 2);
            x.film(0, lane, -1);
            x.film(0, (lane + 1) % 3, 0);
            itemsAre(due, x, 0, lane, 0, 1, 2, 3, 4);
        }
        due.changesNothing(Due::rich, x -> {
            x.film(0, 0, 8);
            x.film(0, 1, 0);
            x.film(3, 0, 0);
        });
    }

    // ---- promise 26: sheet

    @Sentence(promise = 26, says = "A SHEET holds a new row of a LANE: n")
    static void leastAndMostItems(Due due) {
        MeanTown x = new MeanTown();
        for (int s = 0; s <= 3; s++) {
            for (int lane = 0; lane <= 2; lane++) {
                due.is("none", x.sheet(s, lane, 0), 0);
                due.is("no item", x.item(s, lane, 0, 1), INDEX);
                due.is("20", x.sheet(s, lane, 20), 20);
                due.is("the last item", x.item(s, lane, 19, 1), 1);
                due.is("no item more", x.item(s, lane, 20, 1), INDEX);
            }
        }
    }

    @Sentence(promise = 26, says = "0 bytes, 1 shorts, 2 longs, of 0 to 20 items")
    static void rowIsOfTheLaneTold(Due due) {
        for (int lane = 0; lane <= 2; lane++) {
            MeanTown x = Due.townOf("g0");
            fill(x, 0, lane, 7, 7);
            x.item(0, lane, 1, 7 + (1L << 40));
            due.is("2^40 in lane " + lane, x.book(0, lane, 0), lane == 2 ? NOT : NONE);
            x.item(0, lane, 1, 7 + (1L << 12));
            due.is("2^12 in lane " + lane, x.book(0, lane, 0), lane == 0 ? NONE : NOT);
        }
    }

    @Sentence(promise = 26, says = "holds a new row of a LANE")
    static void newRowIsOfZeroes(Due due) {
        MeanTown x = new MeanTown();
        fill(x, 0, 1, 5, 6, 7, 8);
        due.is("as long", x.sheet(0, 1, 4), 4);
        itemsAre(due, x, 0, 1, 0, 0, 0, 0, 0);
        fill(x, 0, 1, 5, 6, 7, 8);
        x.sheet(0, 1, 2);
        x.sheet(0, 1, 4);
        itemsAre(due, x, 0, 1, 0, 0, 0, 0, 0);
        fill(x, 0, 1, 5, 6, 7, 8);
        x.drop(0);
        x.sheet(0, 1, 4);
        itemsAre(due, x, 0, 1, 0, 0, 0, 0, 0);
    }

    @Sentence(promise = 26, says = "holds a new row of a LANE")
    static void newRowTakesThePlace(Due due) {
        MeanTown x = new MeanTown();
        x.sheet(0, 0, 20);
        due.is("of another lane", x.sheet(0, 2, 3), 3);
        due.is("as it was", x.item(0, 0, 0, 1), CAST);
        due.is("as it is", x.item(0, 2, 2, 1), 1);
        due.is("no longer so long", x.item(0, 2, 3, 1), INDEX);
    }

    @Sentence(promise = 26, says = "BAD: also n above 20")
    static void tooManyItems(Due due) {
        MeanTown x = new MeanTown();
        for (int lane = 0; lane <= 2; lane++) {
            due.is("21", x.sheet(0, lane, 21), BAD);
            due.is("highest", x.sheet(0, lane, HIGHEST), BAD);
        }
        due.is("no row", x.drop(0), NULL);
    }

    @Sentence(promise = 26, says = "SIZE: n below 0")
    static void fewerThanNoItems(Due due) {
        MeanTown x = new MeanTown();
        for (int lane = 0; lane <= 2; lane++) {
            due.is("-1", x.sheet(0, lane, -1), SIZE);
            due.is("lowest", x.sheet(0, lane, LOWEST), SIZE);
        }
        due.is("no row", x.drop(0), NULL);
    }

    @Sentence(promise = 26, says = "BAD")
    static void rowOfNoSheet(Due due) {
        for (int no : NO_SHEET) {
            due.is("sheet " + no, new MeanTown().sheet(no, 0, 1), BAD);
        }
    }

    @Sentence(promise = 26, says = "BAD")
    static void rowOfNoLane(Due due) {
        for (int no : NO_LANE) {
            due.is("lane " + no, new MeanTown().sheet(0, no, 1), BAD);
        }
    }

    @Sentence(promise = 26, says = "of several the first that a call names")
    static void badComesAheadOfSize(Due due) {
        due.is("sheet", new MeanTown().sheet(4, 0, -1), BAD);
        due.is("lane", new MeanTown().sheet(0, 3, -1), BAD);
    }

    @Sentence(promise = 26, says = "What is refused changes nothing")
    static void refusedRowLeavesTheOldOne(Due due) {
        MeanTown y = new MeanTown();
        fill(y, 0, 1, 5, 6, 7);
        y.sheet(0, 1, -1);
        y.sheet(0, 1, 21);
        y.sheet(0, 3, 2);
        itemsAre(due, y, 0, 1, 0, 5, 6, 7);
        due.changesNothing(Due::rich, x -> {
            x.sheet(0, 0, -1);
            x.sheet(1, 1, 21);
            x.sheet(2, 3, 2);
            x.sheet(3, 0, -1);
        });
    }

    // ---- promise 27: drop

    @Sentence(promise = 27, says = "A SHEET holds nothing: how many items it had")
    static void dropOfAnEmptyAndOfAFullRow(Due due) {
        MeanTown x = new MeanTown();
        for (int s = 0; s <= 3; s++) {
            x.sheet(s, s % 3, 20);
            due.is("20", x.drop(s), 20);
            x.sheet(s, s % 3, 0);
            due.is("0", x.drop(s), 0);
            due.is("nothing then", x.item(s, s % 3, 0, 1), NULL);
        }
    }

    @Sentence(promise = 27, says = "NULL")
    static void dropOfAMissingSheet(Due due) {
        MeanTown x = new MeanTown();
        due.is("never there", x.drop(0), NULL);
        x.sheet(0, 0, 1);
        x.drop(0);
        due.is("dropped", x.drop(0), NULL);
    }

    @Sentence(promise = 27, says = "BAD")
    static void dropOfNoSheet(Due due) {
        for (int no : NO_SHEET) {
            due.is("sheet " + no, new MeanTown().drop(no), BAD);
        }
    }

    @Sentence(promise = 27, says = "What is refused changes nothing")
    static void refusedDropChangesNothing(Due due) {
        due.changesNothing(Due::rich, x -> {
            x.drop(3);
            x.drop(-1);
            x.drop(4);
        });
    }

    @Sentence(promise = 27, says = "A SHEET holds nothing")
    static void dropIsOfOneSheetAlone(Due due) {
        MeanTown x = new MeanTown();
        for (int s = 0; s <= 3; s++) {
            x.sheet(s, 0, 10 + s);
        }
        due.is("the second", x.drop(1), 11);
        due.is("the first is there", x.drop(0), 10);
        due.is("the last is there", x.drop(3), 13);
    }

    // ---- promise 28: item

    @Sentence(promise = 28, says = "Item i of a SHEET, taken as a row of a LANE, becomes v, its lowest bits: 1")
    static void firstAndLastItem(Due due) {
        for (int lane = 0; lane <= 2; lane++) {
            MeanTown x = new MeanTown();
            x.sheet(0, lane, 20);
            due.is("first", x.item(0, lane, 0, 98), 1);
            due.is("last", x.item(0, lane, 19, 99), 1);
            itemsAre(due, x, 0, lane, 0, 98, 0);
            itemsAre(due, x, 0, lane, 18, 0, 99);
        }
    }

    @Sentence(promise = 28, says = "its lowest bits")
    static void itemOfBytesHasEightBits(Due due) {
        MeanTown x = new MeanTown();
        long[] values = {256, 257, 255 + 256, 99 - 256, 99 + (1L << 63), 5 - (1L << 40)};
        int[] want = {0, 1, NOT, 99, 99, 5};
        wrapsTo(due, x, 0, values, want);
    }

    @Sentence(promise = 28, says = "its lowest bits")
    static void itemOfShortsHasSixteenBits(Due due) {
        MeanTown x = new MeanTown();
        long[] values = {65536, 65537, 65535, 99 - 65536, 256, 99 + (1L << 63), 5 - (1L << 40)};
        int[] want = {0, 1, NOT, 99, NOT, 99, 5};
        wrapsTo(due, x, 1, values, want);
    }

    @Sentence(promise = 28, says = "its lowest bits")
    static void itemOfLongsHasAllBits(Due due) {
        MeanTown x = new MeanTown();
        long[] values = {256, 65536, 1L << 32, 99 + (1L << 63), 5 - (1L << 40), 99};
        int[] want = {NOT, NOT, NOT, NOT, NOT, 99};
        wrapsTo(due, x, 2, values, want);
    }

    /** The item is then as wanted, or, where NOT is wanted, no number of pence. */
    private static void wrapsTo(Due due, MeanTown x, int lane, long[] values, int[] want) {
        becomeOneGate(x);
        x.sheet(0, lane, 2);
        for (int k = 0; k < values.length; k++) {
            due.is(values[k] + " is taken", x.item(0, lane, 0, values[k]), 1);
            x.item(0, lane, 1, Math.max(want[k], 0));
            due.is(values[k] + " is " + want[k], x.book(0, lane, 0), want[k] == NOT ? NOT : NONE);
        }
    }

    @Sentence(promise = 28, says = "BAD")
    static void itemOfNoSheet(Due due) {
        for (int no : NO_SHEET) {
            due.is("sheet " + no, new MeanTown().item(no, 0, 0, 1), BAD);
        }
    }

    @Sentence(promise = 28, says = "BAD")
    static void itemOfNoLane(Due due) {
        MeanTown x = new MeanTown();
        x.sheet(0, 0, 1);
        for (int no : NO_LANE) {
            due.is("lane " + no, x.item(0, no, 0, 1), BAD);
        }
    }

    @Sentence(promise = 28, says = "NULL")
    static void itemOfAMissingSheet(Due due) {
        MeanTown x = new MeanTown();
        for (int lane = 0; lane <= 2; lane++) {
            for (int s = 0; s <= 3; s++) {
                due.is("never there", x.item(s, lane, 0, 1), NULL);
            }
        }
        x.sheet(0, 0, 1);
        x.drop(0);
        due.is("dropped", x.item(0, 0, 0, 1), NULL);
        due.is("dropped, as of another lane", x.item(0, 1, 0, 1), NULL);
    }

    @Sentence(promise = 28, says = "CAST -12 (of SHEETS another LANE)")
    static void itemOfAnotherLane(Due due) {
        for (int lane = 0; lane <= 2; lane++) {
            MeanTown x = new MeanTown();
            x.sheet(0, lane, 1);
            for (int other = 0; other <= 2; other++) {
                due.is("lane " + lane + " as " + other, x.item(0, other, 0, 1), other == lane ? 1 : -12);
            }
        }
    }

    @Sentence(promise = 28, says = "CAST")
    static void itemOfAnEmptyRowOfAnotherLane(Due due) {
        MeanTown x = new MeanTown();
        x.sheet(0, 2, 0);
        due.is("bytes", x.item(0, 0, 0, 1), CAST);
        due.is("shorts", x.item(0, 1, 0, 1), CAST);
    }

    @Sentence(promise = 28, says = "INDEX")
    static void itemBeyondTheRow(Due due) {
        for (int n = 0; n <= 20; n += 4) {
            MeanTown x = new MeanTown();
            x.sheet(0, 0, n);
            for (int far : new int[] {-1, n, n + 1, 21, LOWEST, HIGHEST}) {
                due.is("item " + far + " of " + n, x.item(0, 0, far, 1), INDEX);
            }
        }
    }

    @Sentence(promise = 28, says = "NULL -11, INDEX -13, SIZE -14 (NULL, CAST, INDEX, SIZE in this order)")
    static void itemOrderOfRefusals(Due due) {
        MeanTown x = new MeanTown();
        due.is("BAD ahead of NULL", x.item(0, 3, -1, 1), -1);
        due.is("NULL ahead of INDEX", x.item(0, 0, -1, 1), -11);
        x.sheet(0, 0, 1);
        due.is("BAD ahead of CAST", x.item(0, -1, 5, 1), -1);
        due.is("CAST ahead of INDEX", x.item(0, 1, 5, 1), -12);
        due.is("INDEX", x.item(0, 0, 5, 1), -13);
    }

    @Sentence(promise = 28, says = "What is refused changes nothing")
    static void refusedItemStays(Due due) {
        MeanTown y = new MeanTown();
        fill(y, 0, 1, 5, 6, 7);
        y.item(0, 0, 0, 9);
        y.item(0, 2, 1, 9);
        y.item(0, 1, 3, 9);
        y.item(0, 1, -1, 9);
        itemsAre(due, y, 0, 1, 0, 5, 6, 7);
        due.changesNothing(Due::rich, x -> {
            x.item(0, 1, 0, 9);
            x.item(0, 0, 14, 9);
            x.item(3, 0, 0, 9);
            x.item(0, 3, 0, 9);
        });
    }

    // ---- promise 29: copy

    @Sentence(promise = 29, says = "n items of a SHEET from i on come to another one (or the same) from j on, as if all were taken ahead: n")
    static void copyOfAllAndOfNone(Due due) {
        for (int lane = 0; lane <= 2; lane++) {
            MeanTown x = new MeanTown();
            x.sheet(0, lane, 20);
            x.sheet(1, lane, 20);
            for (int k = 0; k < 20; k++) {
                x.item(0, lane, k, k + 1);
            }
            due.is("all", x.copy(0, 0, 1, 0, 20), 20);
            due.is("none", x.copy(0, 0, 1, 5, 0), 0);
            due.is("none, at the ends", x.copy(0, 20, 1, 20, 0), 0);
            itemsAre(due, x, 1, lane, 0, 1, 2, 3, 4, 5, 6, 7, 8, 9, 10, 11, 12, 13, 14, 15, 16, 17, 18, 19, 20);
        }
    }

    @Sentence(promise = 29, says = "n items of a SHEET from i on come to another one")
    static void copyOfSome(Due due) {
        MeanTown x = new MeanTown();
        fill(x, 0, 2, 1, 2, 3, 4);
        fill(x, 1, 2, 5, 6, 7, 8, 9);
        due.is("two", x.copy(0, 1, 1, 3, 2), 2);
        itemsAre(due, x, 1, 2, 0, 5, 6, 7, 2, 3);
        itemsAre(due, x, 0, 2, 0, 1, 2, 3, 4);
    }

    @Sentence(promise = 29, says = "(or the same) from j on, as if all were taken ahead")
    static void copyUpOverItself(Due due) {
        for (int lane = 0; lane <= 2; lane++) {
            MeanTown x = new MeanTown();
            fill(x, 0, lane, 1, 2, 3, 4, 5);
            due.is("up by one", x.copy(0, 0, 0, 1, 4), 4);
            itemsAre(due, x, 0, lane, 0, 1, 1, 2, 3, 4);
        }
    }

    @Sentence(promise = 29, says = "(or the same) from j on, as if all were taken ahead")
    static void copyDownOverItself(Due due) {
        for (int lane = 0; lane <= 2; lane++) {
            MeanTown x = new MeanTown();
            fill(x, 0, lane, 1, 2, 3, 4, 5);
            due.is("down by one", x.copy(0, 1, 0, 0, 4), 4);
            itemsAre(due, x, 0, lane, 0, 2, 3, 4, 5, 5);
        }
    }

    @Sentence(promise = 29, says = "(or the same) from j on")
    static void copyOntoItself(Due due) {
        MeanTown x = new MeanTown();
        fill(x, 0, 0, 1, 2, 3);
        due.is("in its place", x.copy(0, 0, 0, 0, 3), 3);
        itemsAre(due, x, 0, 0, 0, 1, 2, 3);
    }

    @Sentence(promise = 29, says = "BAD")
    static void copyFromNoSheet(Due due) {
        MeanTown x = new MeanTown();
        x.sheet(0, 0, 4);
        for (int no : NO_SHEET) {
            due.is("from " + no, x.copy(no, 0, 0, 0, 1), BAD);
        }
    }

    @Sentence(promise = 29, says = "BAD")
    static void copyToNoSheet(Due due) {
        MeanTown x = new MeanTown();
        x.sheet(0, 0, 4);
        for (int no : NO_SHEET) {
            due.is("to " + no, x.copy(0, 0, no, 0, 1), BAD);
        }
    }

    @Sentence(promise = 29, says = "NULL (either)")
    static void copyOfAMissingSheet(Due due) {
        MeanTown x = new MeanTown();
        due.is("both", x.copy(0, 0, 1, 0, 0), NULL);
        due.is("the same", x.copy(0, 0, 0, 0, 0), NULL);
        x.sheet(0, 0, 4);
        due.is("to nothing", x.copy(0, 0, 1, 0, 1), NULL);
        due.is("from nothing", x.copy(1, 0, 0, 0, 1), NULL);
        due.is("none from nothing", x.copy(1, 0, 0, 0, 0), NULL);
        x.sheet(1, 2, 4);
        x.drop(1);
        due.is("from what was longs to bytes", x.copy(1, 0, 0, 0, 1), NULL);
        due.is("from bytes to what was longs", x.copy(0, 0, 1, 0, 1), NULL);
    }

    @Sentence(promise = 29, says = "CAST: of unlike LANES")
    static void copyOfUnlikeLanes(Due due) {
        for (int from = 0; from <= 2; from++) {
            for (int to = 0; to <= 2; to++) {
                MeanTown x = new MeanTown();
                x.sheet(0, from, 4);
                x.sheet(1, to, 4);
                due.is("one from " + from + " to " + to, x.copy(0, 0, 1, 0, 1), from == to ? 1 : CAST);
                due.is("none from " + from + " to " + to, x.copy(0, 0, 1, 0, 0), from == to ? 0 : CAST);
            }
        }
    }

    private static MeanTown twoRows() {
        MeanTown x = new MeanTown();
        fill(x, 0, 0, 1, 2, 3, 4, 5);
        fill(x, 1, 0, 6, 7, 8);
        return x;
    }

    @Sentence(promise = 29, says = "INDEX")
    static void copyFromBeyondTheRow(Due due) {
        MeanTown x = twoRows();
        due.is("just there", x.copy(0, 3, 1, 0, 2), 2);
        due.is("one too many", x.copy(0, 4, 1, 0, 2), INDEX);
        for (int far : new int[] {-1, 5, 6, LOWEST, HIGHEST}) {
            due.is("one from " + far, x.copy(0, far, 1, 0, 1), INDEX);
        }
        due.is("none from 6", x.copy(0, 6, 1, 0, 0), INDEX);
        due.is("none from -1", x.copy(0, -1, 1, 0, 0), INDEX);
    }

    @Sentence(promise = 29, says = "INDEX")
    static void copyToBeyondTheRow(Due due) {
        MeanTown x = twoRows();
        due.is("just there", x.copy(0, 0, 1, 1, 2), 2);
        due.is("one too many", x.copy(0, 0, 1, 2, 2), INDEX);
        for (int far : new int[] {-1, 3, 4, LOWEST, HIGHEST}) {
            due.is("one to " + far, x.copy(0, 0, 1, far, 1), INDEX);
        }
        due.is("none to 4", x.copy(0, 0, 1, 4, 0), INDEX);
        due.is("none to -1", x.copy(0, 0, 1, -1, 0), INDEX);
    }

    @Sentence(promise = 29, says = "INDEX")
    static void copyOfFewerThanNone(Due due) {
        MeanTown x = twoRows();
        due.is("-1", x.copy(0, 0, 1, 0, -1), INDEX);
        due.is("-1 from the middle", x.copy(0, 2, 1, 2, -1), INDEX);
        due.is("lowest", x.copy(0, 0, 1, 0, LOWEST), INDEX);
    }

    /** Place and number together are below 0 for the machine. */
    @Sentence(promise = 29, says = "INDEX")
    static void copyOfMoreThanTheMachineCounts(Due due) {
        MeanTown x = twoRows();
        due.is("highest", x.copy(0, 0, 1, 0, HIGHEST), INDEX);
        due.is("from 1", x.copy(0, 1, 1, 0, HIGHEST), INDEX);
        due.is("to 1", x.copy(0, 0, 1, 1, HIGHEST), INDEX);
        due.is("from the highest", x.copy(0, HIGHEST, 1, 0, 1), INDEX);
        due.is("to the highest", x.copy(0, 0, 1, HIGHEST, 1), INDEX);
        due.is("all of them", x.copy(0, HIGHEST, 1, HIGHEST, HIGHEST), INDEX);
    }

    @Sentence(promise = 29, says = "of several the first that a call names")
    static void copyOrderOfRefusals(Due due) {
        MeanTown x = new MeanTown();
        due.is("BAD ahead of NULL", x.copy(0, 0, 4, 0, 1), BAD);
        due.is("NULL ahead of INDEX", x.copy(0, -1, 1, -1, -1), NULL);
        x.sheet(0, 0, 4);
        due.is("NULL of the second ahead of INDEX", x.copy(0, -1, 1, 0, 1), NULL);
        due.is("BAD ahead of INDEX", x.copy(0, -1, -1, 0, 1), BAD);
        x.sheet(1, 1, 4);
        due.is("CAST ahead of INDEX", x.copy(0, -1, 1, 9, -1), CAST);
    }

    @Sentence(promise = 29, says = "What is refused changes nothing")
    static void refusedCopyWritesNothing(Due due) {
        MeanTown x = twoRows();
        x.copy(0, 0, 1, 0, 4);
        x.copy(0, 3, 1, 0, 3);
        x.copy(0, 0, 1, 1, 3);
        x.copy(0, 1, 1, -1, 2);
        itemsAre(due, x, 1, 0, 0, 6, 7, 8);
        itemsAre(due, x, 0, 0, 0, 1, 2, 3, 4, 5);
        MeanTown y = twoRows();
        y.copy(0, 0, 0, 1, 5);
        itemsAre(due, y, 0, 0, 0, 1, 2, 3, 4, 5);
    }
}
