/** Promises 24 to 29: books and films of years, sheets. */
public final class SheetsTest {
    private static final Due due = new Due("SheetsTest");
    private static final int BAD = -1, NOT = -2, NONE = -4, NULL = -11, CAST = -12, INDEX = -13, SIZE = -14;
    private static final int[] FAR = {-1, 4, Integer.MIN_VALUE, Integer.MAX_VALUE};
    private static final int[] FAR_PLACES = {-1, 21, Integer.MIN_VALUE, Integer.MAX_VALUE};

    public static void main(String[] args) {
        book();
        bookRefused();
        film();
        withoutHouses();
        sheet();
        drop();
        item();
        lowestBits();
        copy();
        copyRefused();
        due.end();
    }

    private static void fill(MeanTown x, int sheet, int lane, int from, int... items) {
        for (int k = 0; k < items.length; k++) {
            due.is("item " + (from + k), x.item(sheet, lane, from + k, items[k]), 1);
        }
    }

    private static void book() {
        for (int lane = 0; lane <= 2; lane++) {
            MeanTown x = Due.townOf("g1,p2,c3,f4,p5;01=1,12=1,23=2");
            x.sheet(1, lane, 13);
            fill(x, 1, lane, 2, 10, 0, 0, 50, 7, 10, 5, 33, 50, 7);
            due.is("all did", x.book(1, lane, 2), NONE);
            for (int h = 0; h < 5; h++) {
                x.item(1, lane, 7 + h, 99);
                due.is("but " + h, x.book(1, lane, 2), h);
                fill(x, 1, lane, 7 + h, new int[] {10, 5, 33, 50, 7}[h]);
            }
            x.item(1, lane, 11, 8);
            x.item(1, lane, 8, 6);
            due.is("the first that did not", x.book(1, lane, 2), 1);
            x.item(1, lane, 11, 7);
            x.item(1, lane, 8, 5);
            x.set(2, 1, 30);
            due.is("a cap counts", x.book(1, lane, 2), 2);
            fill(x, 1, lane, 9, 30);
            due.is("and is kept", x.book(1, lane, 2), NONE);
            due.is("nothing is changed", x.told(1, 1), 2);
            due.is("no year passes", x.count(4), 0);
        }
    }

    private static void bookRefused() {
        MeanTown x = Due.townOf("g1,p2;01=1");
        due.is("nothing there", x.book(2, 0, 0), NULL);
        due.is("NULL ahead of INDEX", x.book(2, 0, -1), NULL);
        x.sheet(2, 2, 5);
        due.is("another lane", x.book(2, 1, 0), CAST);
        due.is("CAST ahead of INDEX", x.book(2, 1, 9), CAST);
        due.is("too far", x.book(2, 2, 2), INDEX);
        for (int far : FAR_PLACES) {
            due.is("book i " + far, x.book(2, 2, far), INDEX);
        }
        fill(x, 2, 2, 0, 1, 2, 1, 1);
        due.is("just there", x.book(2, 2, 0), NONE);
        due.is("one farther", x.book(2, 2, 1), 0);
        x.item(2, 2, 0, 100);
        due.is("first is 100", x.book(2, 2, 0), NOT);
        due.is("INDEX ahead of NOT", x.book(2, 2, 2), INDEX);
        x.item(2, 2, 0, -1);
        due.is("first is -1", x.book(2, 2, 0), NOT);
        x.item(2, 2, 0, 1L << 32);
        due.is("first is far above", x.book(2, 2, 0), NOT);
        x.item(2, 2, 0, 1);
        x.item(2, 2, 3, 100);
        due.is("last is 100", x.book(2, 2, 0), NOT);
        x.item(2, 2, 2, 9);
        due.is("NOT ahead of the first that did not", x.book(2, 2, 0), NOT);
        for (int far : FAR) {
            due.is("book sheet " + far, x.book(far, 0, 0), BAD);
            due.is("book lane " + far, x.book(3, far, 0), BAD);
        }
        due.is("book lane 3", x.book(3, 3, 0), BAD);
    }

    private static void film() {
        for (int lane = 0; lane <= 2; lane++) {
            MeanTown x = Due.townOf("g10,p0,p99;01=1,12=1");
            due.is("nothing there", x.film(0, lane, 0), NULL);
            x.sheet(0, lane, 8);
            due.is("another lane", x.film(0, (lane + 1) % 3, 9), CAST);
            due.is("film", x.film(0, lane, 1), 3);
            x.year();
            due.is("film, too far", x.film(0, lane, 6), INDEX);
            due.is("film of the next", x.film(0, lane, 4), 3);
            due.is("a film is a book", x.book(0, lane, 1), NONE);
            due.is("film to the end", x.film(0, lane, 5), 3);
            due.is("not from 0 on", x.book(0, lane, 0), 0);
            for (int far : FAR_PLACES) {
                due.is("film i " + far, x.film(0, lane, far), INDEX);
            }
            for (int far : FAR) {
                due.is("film sheet " + far, x.film(far, lane, 0), BAD);
                due.is("film lane " + far, x.film(0, far, 0), BAD);
            }
            due.is("film lane 3", x.film(0, 3, 0), BAD);
        }
        MeanTown x = Due.townOf("g1,g2,g3");
        x.sheet(0, 0, 6);
        x.film(0, 0, 0);
        x.ask(0, 9);
        due.is("refused", x.film(0, 0, 4), INDEX);
        x.copy(0, 0, 0, 3, 3);
        due.is("a refused one wrote nothing", x.book(0, 0, 0), NONE);
    }

    /** Without houses no item is read, but the place must be one of the row's, or its end. */
    private static void withoutHouses() {
        MeanTown x = new MeanTown();
        due.is("book, nothing there", x.book(0, 0, 0), NULL);
        x.sheet(0, 0, 2);
        due.is("book", x.book(0, 0, 0), NONE);
        due.is("book at the end", x.book(0, 0, 2), NONE);
        due.is("book behind the end", x.book(0, 0, 3), INDEX);
        due.is("book ahead of all", x.book(0, 0, -1), INDEX);
        due.is("film", x.film(0, 0, 2), 0);
        due.is("film behind the end", x.film(0, 0, 3), INDEX);
    }

    private static void sheet() {
        MeanTown x = new MeanTown();
        for (int lane = 0; lane <= 2; lane++) {
            due.is("none", x.sheet(lane, lane, 0), 0);
            due.is("20", x.sheet(lane, lane, 20), 20);
            due.is("the last", x.item(lane, lane, 19, 1), 1);
            due.is("behind the last", x.item(lane, lane, 20, 1), INDEX);
        }
        due.is("21", x.sheet(0, 0, 21), BAD);
        due.is("below 0", x.sheet(0, 0, -1), SIZE);
        due.is("far below 0", x.sheet(0, 0, Integer.MIN_VALUE), SIZE);
        due.is("far above", x.sheet(0, 0, Integer.MAX_VALUE), BAD);
        due.is("BAD ahead of SIZE", x.sheet(0, 3, -1), BAD);
        for (int far : FAR) {
            due.is("sheet " + far, x.sheet(far, 0, 1), BAD);
            due.is("sheet lane " + far, x.sheet(0, far, 1), BAD);
        }
        due.is("refused ones change nothing", x.drop(0), 20);
        MeanTown y = Due.townOf("g0,p0");
        y.sheet(0, 0, 4);
        fill(y, 0, 0, 0, 9, 9, 9, 9);
        y.sheet(0, 0, 4);
        fill(y, 0, 0, 2, 5, 0);
        due.is("a new row is of zeroes", y.book(0, 0, 0), 0);
        fill(y, 0, 0, 2, 0, 5);
        due.is("all of it", y.book(0, 0, 0), 1);
        y.sheet(0, 0, 2);
        y.sheet(0, 0, 4);
        due.is("the end of it too", y.book(0, 0, 0), NONE);
        due.is("another lane", y.sheet(0, 2, 4), 4);
        due.is("is another", y.item(0, 0, 0, 1), CAST);
    }

    private static void drop() {
        MeanTown x = new MeanTown();
        due.is("nothing", x.drop(0), NULL);
        x.sheet(0, 1, 7);
        x.sheet(3, 2, 0);
        due.is("seven", x.drop(0), 7);
        due.is("again", x.drop(0), NULL);
        due.is("an empty row is there", x.drop(3), 0);
        due.is("and then not", x.drop(3), NULL);
        for (int far : FAR) {
            due.is("drop " + far, x.drop(far), BAD);
        }
    }

    private static void item() {
        MeanTown x = new MeanTown();
        due.is("nothing", x.item(1, 0, 0, 0), NULL);
        due.is("NULL ahead of INDEX", x.item(1, 0, -1, 0), NULL);
        x.sheet(1, 1, 3);
        due.is("another lane", x.item(1, 2, 0, 0), CAST);
        due.is("CAST ahead of INDEX", x.item(1, 0, 3, 0), CAST);
        due.is("the last", x.item(1, 1, 2, Long.MIN_VALUE), 1);
        due.is("behind the last", x.item(1, 1, 3, 0), INDEX);
        for (int far : FAR_PLACES) {
            due.is("item i " + far, x.item(1, 1, far, 0), INDEX);
        }
        for (int far : FAR) {
            due.is("item sheet " + far, x.item(far, 1, 0, 0), BAD);
            due.is("item lane " + far, x.item(1, far, 0, 0), BAD);
        }
        due.is("item lane 3", x.item(1, 3, 0, 0), BAD);
    }

    private static void lowestBits() {
        int[] bits = {8, 16, 64};
        for (int lane = 0; lane <= 2; lane++) {
            MeanTown x = Due.townOf("g7");
            x.sheet(0, lane, 2);
            fill(x, 0, lane, 0, 7, 7);
            x.item(0, lane, 0, (1L << 8) + 7);
            due.is("7 and 2^8 in lane " + lane, x.book(0, lane, 0), lane == 0 ? NONE : NOT);
            x.item(0, lane, 0, (1L << 16) + 7);
            due.is("7 and 2^16 in lane " + lane, x.book(0, lane, 0), lane <= 1 ? NONE : NOT);
            x.item(0, lane, 0, (1L << 32) + 7);
            due.is("7 and 2^32 in lane " + lane, x.book(0, lane, 0), lane <= 1 ? NONE : NOT);
            x.item(0, lane, 0, 1L << bits[lane] - 1);
            due.is("the lowest of lane " + lane, x.book(0, lane, 0), NOT);
        }
    }

    /** Of a town of one gate, with sheet 3 free for it: a book of an item and of what is due. */
    private static void rowIs(String when, MeanTown x, int sheet, int lane, int from, int... items) {
        x.sheet(3, lane, 2);
        for (int k = 0; k < items.length; k++) {
            x.copy(sheet, from + k, 3, 0, 1);
            x.item(3, lane, 1, items[k]);
            due.is(when + ": item " + (from + k) + " is " + items[k], x.book(3, lane, 0), NONE);
        }
    }

    private static void copy() {
        for (int lane = 0; lane <= 2; lane++) {
            MeanTown x = Due.townOf("g1");
            x.sheet(0, lane, 6);
            x.sheet(1, lane, 20);
            fill(x, 0, lane, 0, 1, 2, 3, 4, 5, 6);
            due.is("all", x.copy(0, 0, 1, 14, 6), 6);
            rowIs("all", x, 1, lane, 13, 0, 1, 2, 3, 4, 5, 6);
            due.is("none", x.copy(0, 6, 1, 20, 0), 0);
            due.is("some", x.copy(0, 4, 1, 1, 2), 2);
            rowIs("some", x, 1, lane, 0, 0, 5, 6, 0);
            due.is("up, over itself", x.copy(0, 0, 0, 1, 5), 5);
            rowIs("up", x, 0, lane, 0, 1, 1, 2, 3, 4, 5);
            fill(x, 0, lane, 0, 1, 2, 3, 4, 5, 6);
            due.is("down, over itself", x.copy(0, 1, 0, 0, 5), 5);
            rowIs("down", x, 0, lane, 0, 2, 3, 4, 5, 6, 6);
            due.is("to its own place", x.copy(0, 2, 0, 2, 4), 4);
            rowIs("own place", x, 0, lane, 0, 2, 3, 4, 5, 6, 6);
            due.is("refused", x.copy(0, 0, 0, 1, 6), INDEX);
            rowIs("refused", x, 0, lane, 0, 2, 3, 4, 5, 6, 6);
        }
    }

    private static void copyRefused() {
        MeanTown x = new MeanTown();
        due.is("nothing to take", x.copy(0, 0, 1, 0, 0), NULL);
        x.sheet(0, 0, 5);
        due.is("nowhere to put", x.copy(0, 0, 1, 0, 0), NULL);
        due.is("from nowhere", x.copy(1, 0, 0, 0, 0), NULL);
        due.is("NULL ahead of INDEX", x.copy(1, -1, 0, 0, 0), NULL);
        x.sheet(1, 1, 5);
        due.is("unlike lanes", x.copy(0, 0, 1, 0, 1), CAST);
        due.is("unlike lanes, nothing to take", x.copy(0, 0, 1, 0, 0), CAST);
        due.is("CAST ahead of INDEX", x.copy(0, -1, 1, 0, 0), CAST);
        x.sheet(1, 0, 3);
        due.is("n below 0", x.copy(0, 0, 1, 0, -1), INDEX);
        due.is("more than there is", x.copy(1, 0, 0, 0, 4), INDEX);
        due.is("more than has room", x.copy(0, 0, 1, 0, 4), INDEX);
        due.is("from too far", x.copy(0, 3, 1, 0, 3), INDEX);
        due.is("to too far", x.copy(0, 0, 1, 1, 3), INDEX);
        due.is("nothing, from behind the end", x.copy(0, 6, 1, 0, 0), INDEX);
        due.is("nothing, to behind the end", x.copy(0, 0, 1, 4, 0), INDEX);
        for (int far : FAR_PLACES) {
            due.is("copy i " + far, x.copy(0, far, 1, 0, 1), INDEX);
            due.is("copy j " + far, x.copy(0, 0, 1, far, 1), INDEX);
            due.is("copy n " + far, x.copy(0, 0, 1, 0, far), INDEX);
        }
        due.is("all far", x.copy(0, Integer.MAX_VALUE, 1, Integer.MAX_VALUE, Integer.MAX_VALUE), INDEX);
        for (int far : FAR) {
            due.is("copy from " + far, x.copy(far, 0, 1, 0, 1), BAD);
            due.is("copy to " + far, x.copy(0, 0, far, 0, 1), BAD);
        }
    }
}
