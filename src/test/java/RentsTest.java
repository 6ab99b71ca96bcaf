/** Promises 11 to 15: rents, what moves them, walks, changes, houses pulled down. */
public final class RentsTest {
    private static final Due due = new Due("RentsTest");
    private static final int BAD = -1, NOT = -2, NONE = -4;
    private static final long LESS = 1000000000000000000L;
    private static final int[] FAR = {-1, 8, Integer.MIN_VALUE, Integer.MAX_VALUE};

    public static void main(String[] args) {
        rent();
        largestRents();
        moves();
        walk();
        longestWalk();
        change();
        pulled();
        due.end();
    }

    private static void isFraction(String what, long above, long below, long wantAbove, long wantBelow) {
        due.is(what + " above", above, wantAbove);
        due.is(what + " below", below, wantBelow);
    }

    private static void rentIs(MeanTown x, int house, long above, long below) {
        isFraction("rent of " + house, x.rent(house, 0), x.rent(house, 1), above, below);
    }

    private static void movesIs(MeanTown x, int house, int fixed, long above, long below) {
        isFraction("moves of " + house + " by " + fixed, x.moves(house, fixed, 0), x.moves(house, fixed, 1),
                above, below);
    }

    private static void walkIs(MeanTown x, int house, long above, long below) {
        isFraction("walk from " + house, x.walk(house, 0), x.walk(house, 1), above, below);
    }

    private static void changeIs(MeanTown x, int[] abv, int house, long above, long below) {
        isFraction("change seen from " + house, x.change(abv[0], abv[1], abv[2], house, 0),
                x.change(abv[0], abv[1], abv[2], house, 1), above, below);
    }

    private static void pulledIs(MeanTown x, int down, int house, long above, long below) {
        isFraction("pulled " + down + " seen from " + house, x.pulled(down, house, 0), x.pulled(down, house, 1),
                above, below);
    }

    private static void rent() {
        MeanTown x = Due.townOf("g10,p99,f70,c1,p5,p6;01=1,12=2,23=1,45=2");
        x.set(3, 1, 0);
        rentIs(x, 0, 10, 1);
        rentIs(x, 1, 50, 1);
        rentIs(x, 2, 70, 1);
        rentIs(x, 3, 70, 1);
        rentIs(x, 4, NONE, NONE);
        rentIs(x, 5, NONE, NONE);
        x.ask(0, 9);
        rentIs(x, 1, 149, 3);
        x.share(1, 5, 1);
        rentIs(x, 4, 149, 3);
        x.share(0, 1, 0);
        x.share(1, 2, 0);
        rentIs(x, 1, NONE, NONE);
        for (int far : FAR) {
            due.is("rent of " + far, x.rent(far, 0), BAD);
            due.is("rent part " + far, x.rent(0, far), BAD);
        }
        due.is("rent part 2", x.rent(4, 2), BAD);
        due.is("rent no such", x.rent(6, 0), BAD);
        due.is("a rent of 0", Due.townOf("g0,p5;01=2").rent(1, 1), 1);
        due.is("a lonely gate", Due.townOf("g7").rent(0, 0), 7);
    }

    /** Every pair has the most share, so the numbers on the way are the largest. */
    private static void largestRents() {
        MeanTown x = Due.townOf("g99,p0,p0,p0,p0,p0,p0,p0");
        for (int a = 0; a < 8; a++) {
            for (int b = 0; b < a; b++) {
                x.share(a, b, 2);
            }
        }
        for (int h = 1; h < 8; h++) {
            rentIs(x, h, 99, 1);
            walkIs(x, h, 7, 1);
            movesIs(x, h, 0, 1, 1);
        }
        x.share(0, 7, 0);
        rentIs(x, 7, 99, 1);
        changeIs(x, new int[] {0, 7, 2}, 1, 0, 1);
        due.is("all bought", x.bought(7, 0, 0), 0b1111110);
    }

    private static void moves() {
        MeanTown x = Due.townOf("g10,p0,p0,f70,p1,g5;01=1,12=2,23=1");
        movesIs(x, 0, 0, 1, 1);
        movesIs(x, 0, 3, 0, 1);
        movesIs(x, 1, 0, 3, 5);
        movesIs(x, 1, 3, 2, 5);
        movesIs(x, 2, 0, 2, 5);
        movesIs(x, 2, 3, 3, 5);
        movesIs(x, 1, 5, 0, 1);
        movesIs(x, 4, 0, NONE, NONE);
        movesIs(x, 0, 1, NOT, NOT);
        movesIs(x, 4, 4, NOT, NOT);
        due.is("NOT ahead of NONE", x.moves(4, 1, 0), NOT);
        due.is("BAD ahead of NOT", x.moves(4, 1, 2), BAD);
        due.is("moves no such house", x.moves(6, 0, 0), BAD);
        due.is("moves no such fixed", x.moves(0, 6, 0), BAD);
        for (int far : FAR) {
            due.is("moves house " + far, x.moves(far, 0, 0), BAD);
            due.is("moves fixed " + far, x.moves(0, far, 0), BAD);
            due.is("moves part " + far, x.moves(0, 0, far), BAD);
        }
        long before = x.rent(1, 0) * 5 / x.rent(1, 1);
        x.ask(0, 11);
        due.is("one more at a gate moves as told", x.rent(1, 0) * 5 / x.rent(1, 1) - before, 3);
    }

    private static void walk() {
        MeanTown x = Due.townOf("g10,p0,p0,f70,p1;01=1,12=2,23=1");
        walkIs(x, 0, 0, 1);
        walkIs(x, 3, 0, 1);
        walkIs(x, 1, 3, 1);
        walkIs(x, 2, 3, 1);
        walkIs(x, 4, NONE, NONE);
        x.share(0, 2, 1);
        walkIs(x, 1, 5, 2);
        walkIs(x, 2, 9, 4);
        for (int far : FAR) {
            due.is("walk house " + far, x.walk(far, 0), BAD);
            due.is("walk part " + far, x.walk(0, far), BAD);
        }
        due.is("walk BAD ahead of NONE", x.walk(4, 2), BAD);
    }

    /** On a line with its gate at one end, the walk from the other end is 7 * 7 steps. */
    private static void longestWalk() {
        MeanTown x = Due.townOf("g0,p0,p0,p0,p0,p0,p0,p0;01=1,12=1,23=1,34=1,45=1,56=1,67=1");
        walkIs(x, 7, 49, 1);
        walkIs(x, 1, 13, 1);
    }

    private static void change() {
        MeanTown x = Due.townOf("g10,p0,p0,f70,p1;01=1,12=2,23=1");
        rentIs(x, 1, 34, 1);
        changeIs(x, new int[] {0, 1, 2}, 1, -9, 1);
        changeIs(x, new int[] {1, 0, 2}, 2, -6, 1);
        changeIs(x, new int[] {3, 1, 1}, 1, 27, 2);
        changeIs(x, new int[] {1, 2, 0}, 1, -24, 1);
        changeIs(x, new int[] {1, 2, 0}, 0, 0, 1);
        changeIs(x, new int[] {1, 2, 2}, 1, 0, 1);
        rentIs(x, 1, 34, 1);
        due.is("nothing is changed", x.share(1, 2, 2), 2);
        due.is("not reached now", x.change(4, 1, 1, 4, 0), NONE - LESS);
        due.is("not reached now, below", x.change(4, 1, 1, 4, 1), NONE - LESS);
        x.share(4, 0, 1);
        due.is("not reached then", x.change(4, 0, 0, 4, 0), NONE - LESS);
        due.is("alike", x.change(1, 1, 1, 1, 0), BAD - LESS);
        due.is("v 3", x.change(0, 1, 3, 1, 0), BAD - LESS);
        due.is("BAD ahead of NONE", x.change(4, 0, 0, 4, 2), BAD - LESS);
        for (int far : FAR) {
            due.is("change a " + far, x.change(far, 1, 1, 1, 0), BAD - LESS);
            due.is("change b " + far, x.change(1, far, 1, 1, 0), BAD - LESS);
            due.is("change v " + far, x.change(0, 1, far, 1, 0), BAD - LESS);
            due.is("change house " + far, x.change(0, 1, 1, far, 0), BAD - LESS);
            due.is("change part " + far, x.change(0, 1, 1, 1, far), BAD - LESS);
        }
    }

    private static void pulled() {
        MeanTown x = Due.townOf("g10,p0,p0,f70,p1,g20;01=1,12=2,23=1,52=1");
        rentIs(x, 1, 55, 2);
        rentIs(x, 2, 145, 4);
        pulledIs(x, 5, 1, 13, 2);
        pulledIs(x, 5, 2, 39, 4);
        pulledIs(x, 1, 2, 35, 4);
        pulledIs(x, 0, 1, 35, 2);
        pulledIs(x, 3, 1, 28 - 55, 2);
        pulledIs(x, 4, 1, 0, 1);
        pulledIs(x, 1, 0, 0, 1);
        due.is("nothing is pulled", x.count(3), 4);
        rentIs(x, 2, 145, 4);
        due.is("not reached now", x.pulled(1, 4, 0), NONE - LESS);
        due.is("not reached now, below", x.pulled(1, 4, 1), NONE - LESS);
        x.share(4, 1, 1);
        pulledIs(x, 3, 4, 28 - 55, 2);
        due.is("not reached then", x.pulled(1, 4, 0), NONE - LESS);
        due.is("pulled alike", x.pulled(1, 1, 0), BAD - LESS);
        due.is("pulled no such", x.pulled(6, 1, 0), BAD - LESS);
        due.is("pulled BAD ahead of NONE", x.pulled(1, 4, 2), BAD - LESS);
        for (int far : FAR) {
            due.is("pulled down " + far, x.pulled(far, 1, 0), BAD - LESS);
            due.is("pulled house " + far, x.pulled(1, far, 0), BAD - LESS);
            due.is("pulled part " + far, x.pulled(1, 2, far), BAD - LESS);
        }
    }
}
