/** Edges of promises 11 to 15: rents, moves, walks, changes, houses pulled down. */
final class RentsEdges {
    private static final int BAD = -1, NOT = -2, NONE = -4;
    private static final long LESS = 1000000000000000000L;
    private static final int LOWEST = Integer.MIN_VALUE, HIGHEST = Integer.MAX_VALUE;
    private static final int[] NO_PART = {-1, 2, LOWEST, HIGHEST};
    /** Numbers of houses that a town of five has not. */
    private static final int[] NO_HOUSE_OF_5 = {-1, 5, 8, LOWEST, HIGHEST};
    /** A gate, two between, a frozen one; and a house that is not reached. */
    private static final String FIVE = "g10,p0,p0,f70,p1;01=1,12=2,23=1";
    /** Shares of all pairs of eight, 0 and 1 first: rents of these have numbers below above a million. */
    private static final String LONG_RENTS = "2222121" + "221221" + "11122" + "2222" + "211" + "12" + "1";
    /** The same: walks of these are of more than 60 million, above. */
    private static final String LONG_WALKS = "2122112" + "122212" + "22222" + "2211" + "112" + "12" + "2";

    private RentsEdges() {
    }

    private static MeanTown dense(String houses, String shares) {
        MeanTown x = Due.townOf(houses);
        int at = 0;
        for (int a = 0; a < 8; a++) {
            for (int b = a + 1; b < 8; b++) {
                x.share(a, b, shares.charAt(at) - '0');
                at++;
            }
        }
        return x;
    }

    private static void rentIs(Due due, MeanTown x, int house, long above, long below) {
        due.isFraction("rent of " + house, x.rent(house, 0), x.rent(house, 1), above, below);
    }

    private static void movesIs(Due due, MeanTown x, int house, int fixed, long above, long below) {
        due.isFraction("moves of " + house + " by " + fixed, x.moves(house, fixed, 0), x.moves(house, fixed, 1),
                above, below);
    }

    private static void walkIs(Due due, MeanTown x, int house, long above, long below) {
        due.isFraction("walk from " + house, x.walk(house, 0), x.walk(house, 1), above, below);
    }

    private static void changeIs(Due due, MeanTown x, int[] abv, int house, long above, long below) {
        due.isFraction("change of " + abv[0] + " and " + abv[1] + " to " + abv[2] + ", for " + house,
                x.change(abv[0], abv[1], abv[2], house, 0), x.change(abv[0], abv[1], abv[2], house, 1), above, below);
    }

    private static void pulledIs(Due due, MeanTown x, int down, int house, long above, long below) {
        due.isFraction("pulled " + down + ", for " + house, x.pulled(down, house, 0), x.pulled(down, house, 1),
                above, below);
    }

    // ---- promise 11: rent

    @Sentence(promise = 11, says = "of a FIXED one what it ASKS")
    static void rentOfAFixedOneIsWhatItAsks(Due due) {
        MeanTown x = Due.townOf("g0,f99,g7,p50;01=2,12=2,13=2");
        rentIs(due, x, 0, 0, 1);
        rentIs(due, x, 1, 99, 1);
        rentIs(due, x, 2, 7, 1);
        x.ask(0, 99);
        rentIs(due, x, 0, 99, 1);
    }

    @Sentence(promise = 11, says = "RENT")
    static void rentIsAtMostAndAtLeast(Due due) {
        MeanTown x = Due.townOf("g0,f99,p50,c50;02=1,13=1");
        rentIs(due, x, 2, 0, 1);
        rentIs(due, x, 3, 99, 1);
    }

    @Sentence(promise = 11, says = "the RENTS of those BESIDE it, each times the SHARE, together, by its WEIGHT")
    static void rentIsTheMeanByShares(Due due) {
        MeanTown x = Due.townOf("g10,p0,f70;01=1,12=2");
        rentIs(due, x, 1, 50, 1);
        x.share(0, 1, 2);
        rentIs(due, x, 1, 40, 1);
        x.share(1, 2, 0);
        rentIs(due, x, 1, 10, 1);
    }

    @Sentence(promise = 11, says = "of any other one the RENTS of those BESIDE it")
    static void askingOfAnOpenHouseDoesNotCount(Due due) {
        MeanTown x = Due.townOf("g10,p99,c99;01=1,12=1");
        x.set(2, 1, 0);
        rentIs(due, x, 1, 10, 1);
        rentIs(due, x, 2, 10, 1);
    }

    @Sentence(promise = 11, says = "exactly, as fractions")
    static void rentIsExact(Due due) {
        MeanTown x = Due.townOf("g0,p0,p0,g1;01=1,12=1,23=1");
        rentIs(due, x, 1, 1, 3);
        rentIs(due, x, 2, 2, 3);
    }

    @Sentence(promise = 11, says = "exactly, as fractions")
    static void longestRentsAreExact(Due due) {
        MeanTown x = dense("g99,p0,p0,p0,p0,p0,p0,f98", LONG_RENTS);
        rentIs(due, x, 1, 113993445, 1156423);
        rentIs(due, x, 4, 113996596, 1156423);
        rentIs(due, x, 6, 114000064, 1156423);
    }

    @Sentence(promise = 11, says = "exactly, as fractions")
    static void rentsOfTheMostSharesAreExact(Due due) {
        MeanTown x = dense("g99,p0,p0,p0,p0,p0,p0,p0", "2".repeat(28));
        for (int h = 0; h < 8; h++) {
            rentIs(due, x, h, 99, 1);
        }
    }

    @Sentence(promise = 11, says = "Fractions are in lowest terms, told above (part 0) and below (part 1; above 0)")
    static void rentIsInLowestTerms(Due due) {
        MeanTown x = Due.townOf("g10,p0,g20;01=2,12=2");
        rentIs(due, x, 1, 15, 1);
        x.ask(2, 21);
        rentIs(due, x, 1, 31, 2);
        x.ask(0, 0);
        x.ask(2, 0);
        rentIs(due, x, 1, 0, 1);
    }

    @Sentence(promise = 11, says = "NONE: it is not REACHED")
    static void unreachedHouseHasNoRent(Due due) {
        MeanTown x = Due.townOf("g10,p1,p2,c3,p4;12=1,23=2");
        for (int h = 1; h < 5; h++) {
            rentIs(due, x, h, NONE, NONE);
        }
        x.share(0, 1, 1);
        rentIs(due, x, 3, 10, 1);
        rentIs(due, x, 4, NONE, NONE);
    }

    @Sentence(promise = 11, says = "(others have none)")
    static void houseWithoutWeightHasNoRent(Due due) {
        rentIs(due, Due.townOf("p5"), 0, NONE, NONE);
        rentIs(due, Due.townOf("p5,g6;01=0"), 0, NONE, NONE);
    }

    @Sentence(promise = 11, says = "BAD")
    static void rentOfNoHouse(Due due) {
        MeanTown x = Due.townOf(FIVE);
        for (int no : NO_HOUSE_OF_5) {
            rentIs(due, x, no, BAD, BAD);
        }
        rentIs(due, new MeanTown(), 0, BAD, BAD);
    }

    @Sentence(promise = 11, says = "BAD")
    static void rentOfNoPart(Due due) {
        MeanTown x = Due.townOf(FIVE);
        for (int no : NO_PART) {
            due.is("part " + no, x.rent(1, no), BAD);
        }
    }

    @Sentence(promise = 11, says = "of several the first that a call names")
    static void rentBadComesAheadOfNone(Due due) {
        due.is("part 2 of one that is not reached", Due.townOf(FIVE).rent(4, 2), BAD);
    }

    @Sentence(promise = 11, says = "What is refused changes nothing")
    static void rentChangesNothing(Due due) {
        due.changesNothing(Due::rich, x -> {
            x.rent(1, 0);
            x.rent(4, 0);
            x.rent(7, 0);
            x.rent(1, 2);
        });
    }

    // ---- promise 12: moves

    @Sentence(promise = 12, says = "MOVES: by how much RENT of a HOUSE is more, if a FIXED one asked 1 more")
    static void movesOfTheFixedOneItself(Due due) {
        MeanTown x = Due.townOf(FIVE);
        movesIs(due, x, 0, 0, 1, 1);
        movesIs(due, x, 3, 3, 1, 1);
        movesIs(due, x, 0, 3, 0, 1);
        movesIs(due, x, 3, 0, 0, 1);
    }

    @Sentence(promise = 12, says = "if a FIXED one asked 1 more (all else as it is)")
    static void movesWhereTheMostIsAsked(Due due) {
        MeanTown x = Due.townOf("g99,p0,f99;01=1,12=2");
        movesIs(due, x, 0, 0, 1, 1);
        movesIs(due, x, 1, 0, 1, 3);
        movesIs(due, x, 1, 2, 2, 3);
    }

    @Sentence(promise = 12, says = "comes to that FIXED one first")
    static void movesByAGateBehindAnother(Due due) {
        MeanTown x = Due.townOf("g10,p0,g20,p0;01=1,02=2,23=1");
        movesIs(due, x, 1, 0, 1, 1);
        movesIs(due, x, 1, 2, 0, 1);
        movesIs(due, x, 3, 0, 0, 1);
        movesIs(due, x, 3, 2, 1, 1);
    }

    @Sentence(promise = 12, says = "MOVES by a FIXED HOUSE")
    static void movesAreExactWhereLongest(Due due) {
        MeanTown x = dense("g99,p0,p0,p0,p0,p0,p0,f98", LONG_RENTS);
        movesIs(due, x, 1, 0, 663991, 1156423);
        movesIs(due, x, 1, 7, 492432, 1156423);
        movesIs(due, x, 6, 0, 670610, 1156423);
    }

    @Sentence(promise = 12, says = "Fractions are in lowest terms")
    static void movesAreInLowestTerms(Due due) {
        MeanTown x = Due.townOf("g10,p0,g20,g30;01=2,12=1,13=1");
        movesIs(due, x, 1, 0, 1, 2);
        movesIs(due, x, 1, 2, 1, 4);
    }

    @Sentence(promise = 12, says = "NOT: the second is not FIXED")
    static void movesByOneThatIsNotFixed(Due due) {
        MeanTown x = Due.townOf("g10,p0,c0;01=1,12=1");
        movesIs(due, x, 0, 1, NOT, NOT);
        movesIs(due, x, 1, 1, NOT, NOT);
        movesIs(due, x, 1, 2, NOT, NOT);
    }

    @Sentence(promise = 12, says = "NONE: the first is not REACHED")
    static void movesOfOneThatIsNotReached(Due due) {
        MeanTown x = Due.townOf(FIVE);
        movesIs(due, x, 4, 0, NONE, NONE);
        movesIs(due, x, 4, 3, NONE, NONE);
    }

    @Sentence(promise = 12, says = "BAD")
    static void movesOfNoHouse(Due due) {
        MeanTown x = Due.townOf(FIVE);
        for (int no : NO_HOUSE_OF_5) {
            movesIs(due, x, no, 0, BAD, BAD);
        }
    }

    @Sentence(promise = 12, says = "BAD")
    static void movesByNoHouse(Due due) {
        MeanTown x = Due.townOf(FIVE);
        for (int no : NO_HOUSE_OF_5) {
            movesIs(due, x, 0, no, BAD, BAD);
        }
    }

    @Sentence(promise = 12, says = "BAD")
    static void movesOfNoPart(Due due) {
        MeanTown x = Due.townOf(FIVE);
        for (int no : NO_PART) {
            due.is("part " + no, x.moves(1, 0, no), BAD);
        }
    }

    @Sentence(promise = 12, says = "of several the first that a call names")
    static void movesBadThenNotThenNone(Due due) {
        MeanTown x = Due.townOf(FIVE);
        due.is("BAD ahead of NOT", x.moves(1, 1, 2), BAD);
        due.is("BAD ahead of NONE", x.moves(4, 0, 2), BAD);
        due.is("no such house ahead of NOT", x.moves(5, 1, 0), BAD);
        due.is("NOT ahead of NONE", x.moves(4, 1, 0), NOT);
        due.is("NOT ahead of NONE, by itself", x.moves(4, 4, 0), NOT);
    }

    @Sentence(promise = 12, says = "all else as it is")
    static void movesChangesNothing(Due due) {
        due.changesNothing(Due::rich, x -> {
            x.moves(1, 0, 0);
            x.moves(1, 1, 0);
            x.moves(4, 0, 0);
            x.moves(7, 0, 0);
        });
    }

    // ---- promise 13: walk

    @Sentence(promise = 13, says = "(0 from a FIXED one on)")
    static void walkFromAFixedOne(Due due) {
        MeanTown x = Due.townOf("g1,f2,p3;02=1,12=1");
        walkIs(due, x, 0, 0, 1);
        walkIs(due, x, 1, 0, 1);
        walkIs(due, Due.townOf("g1"), 0, 0, 1);
    }

    @Sentence(promise = 13, says = "LONG: how many steps such a walk is till a FIXED one, in the mean")
    static void shortestAndLongestWalk(Due due) {
        walkIs(due, Due.townOf("g1,p0;01=2"), 1, 1, 1);
        MeanTown line = Due.townOf("g0,p0,p0,p0,p0,p0,p0,p0;01=1,12=1,23=1,34=1,45=1,56=1,67=1");
        walkIs(due, line, 1, 13, 1);
        walkIs(due, line, 7, 49, 1);
    }

    @Sentence(promise = 13, says = "LONG")
    static void longestWalksAreExact(Due due) {
        MeanTown x = dense("g99,p0,p0,p0,p0,p0,p0,p0", LONG_WALKS);
        walkIs(due, x, 1, 56743932, 7887745);
        walkIs(due, x, 2, 61364993, 7887745);
        walkIs(due, x, 7, 11556557, 1577549);
    }

    @Sentence(promise = 13, says = "Fractions are in lowest terms")
    static void walkIsInLowestTerms(Due due) {
        MeanTown x = Due.townOf("g10,p0,p0,f70;01=1,12=2,23=1");
        walkIs(due, x, 1, 3, 1);
        x.share(0, 2, 1);
        walkIs(due, x, 1, 5, 2);
        walkIs(due, x, 2, 9, 4);
    }

    @Sentence(promise = 13, says = "NONE: it is not REACHED")
    static void walkFromOneThatIsNotReached(Due due) {
        MeanTown x = Due.townOf(FIVE);
        walkIs(due, x, 4, NONE, NONE);
        x.share(4, 0, 1);
        walkIs(due, x, 4, 1, 1);
    }

    @Sentence(promise = 13, says = "BAD")
    static void walkFromNoHouse(Due due) {
        MeanTown x = Due.townOf(FIVE);
        for (int no : NO_HOUSE_OF_5) {
            walkIs(due, x, no, BAD, BAD);
        }
    }

    @Sentence(promise = 13, says = "BAD")
    static void walkOfNoPart(Due due) {
        MeanTown x = Due.townOf(FIVE);
        for (int no : NO_PART) {
            due.is("part " + no, x.walk(1, no), BAD);
        }
    }

    @Sentence(promise = 13, says = "of several the first that a call names")
    static void walkBadComesAheadOfNone(Due due) {
        due.is("part 2 of one that is not reached", Due.townOf(FIVE).walk(4, 2), BAD);
    }

    @Sentence(promise = 13, says = "What is refused changes nothing")
    static void walkChangesNothing(Due due) {
        due.changesNothing(Due::rich, x -> {
            x.walk(1, 0);
            x.walk(4, 0);
            x.walk(7, 0);
        });
    }

    // ---- promise 14: change

    @Sentence(promise = 14, says = "A CHANGE of the SHARE of two to another number: RENT of a HOUSE then less RENT now")
    static void changeToTheLeastAndTheMost(Due due) {
        MeanTown x = Due.townOf(FIVE);
        changeIs(due, x, new int[] {0, 1, 2}, 1, -9, 1);
        changeIs(due, x, new int[] {1, 0, 2}, 1, -9, 1);
        changeIs(due, x, new int[] {0, 1, 0}, 1, 36, 1);
        changeIs(due, x, new int[] {0, 2, 1}, 2, -27, 2);
    }

    @Sentence(promise = 14, says = "told above (part 0) and below (part 1; above 0)")
    static void changeBelow0IsSoAbove(Due due) {
        MeanTown x = Due.townOf("g99,p0,g0;01=2,12=1");
        changeIs(due, x, new int[] {1, 2, 2}, 1, -33, 2);
        changeIs(due, x, new int[] {0, 1, 1}, 1, -33, 2);
        changeIs(due, x, new int[] {1, 2, 0}, 1, 33, 1);
    }

    @Sentence(promise = 14, says = "RENT of a HOUSE then less RENT now")
    static void changeThatMovesNothing(Due due) {
        MeanTown x = Due.townOf(FIVE);
        changeIs(due, x, new int[] {0, 1, 0}, 0, 0, 1);
        changeIs(due, x, new int[] {0, 3, 2}, 1, 0, 1);
        changeIs(due, x, new int[] {4, 1, 2}, 1, 0, 1);
    }

    @Sentence(promise = 14, says = "RENT of a HOUSE then less RENT now")
    static void longestChangeIsExact(Due due) {
        MeanTown x = dense("g99,p0,p0,p0,p0,p0,p0,f0", LONG_RENTS);
        changeIs(due, x, new int[] {0, 1, 0}, 1, -4242064327776L, 345144852157L);
        changeIs(due, x, new int[] {1, 0, 0}, 4, -27007925472L, 7043772493L);
    }

    @Sentence(promise = 14, says = "A CHANGE (nothing is changed by it)")
    static void changeChangesNothing(Due due) {
        due.changesNothing(Due::rich, x -> {
            x.change(0, 1, 2, 1, 0);
            x.change(0, 1, 0, 1, 1);
            x.change(0, 1, 3, 1, 0);
            x.change(3, 4, 1, 4, 0);
            x.change(7, 1, 1, 1, 0);
        });
    }

    @Sentence(promise = 14, says = "NONE (it is not REACHED now, or then), so much less")
    static void changeForOneNotReachedNow(Due due) {
        MeanTown x = Due.townOf(FIVE);
        changeIs(due, x, new int[] {4, 0, 1}, 4, NONE - LESS, NONE - LESS);
        changeIs(due, x, new int[] {0, 1, 2}, 4, NONE - LESS, NONE - LESS);
    }

    @Sentence(promise = 14, says = "NONE (it is not REACHED now, or then), so much less")
    static void changeForOneNotReachedThen(Due due) {
        MeanTown x = Due.townOf("g10,p0,p0;01=1,12=2");
        changeIs(due, x, new int[] {1, 2, 0}, 2, NONE - LESS, NONE - LESS);
        changeIs(due, x, new int[] {0, 1, 0}, 2, NONE - LESS, NONE - LESS);
        changeIs(due, x, new int[] {1, 2, 0}, 1, 0, 1);
    }

    @Sentence(promise = 14, says = "refused ones are 1000000000000000000 less (-1000000000000000001 and so on)")
    static void changeOfNoHouse(Due due) {
        MeanTown x = Due.townOf(FIVE);
        for (int no : NO_HOUSE_OF_5) {
            changeIs(due, x, new int[] {no, 1, 1}, 1, -1000000000000000001L, -1000000000000000001L);
            changeIs(due, x, new int[] {1, no, 1}, 1, -1000000000000000001L, -1000000000000000001L);
        }
    }

    @Sentence(promise = 14, says = "BAD")
    static void changeForNoHouse(Due due) {
        MeanTown x = Due.townOf(FIVE);
        for (int no : NO_HOUSE_OF_5) {
            changeIs(due, x, new int[] {0, 1, 1}, no, BAD - LESS, BAD - LESS);
        }
    }

    @Sentence(promise = 14, says = "BAD")
    static void changeOfOneHouse(Due due) {
        MeanTown x = Due.townOf(FIVE);
        for (int h = 0; h < 5; h++) {
            changeIs(due, x, new int[] {h, h, 1}, 1, BAD - LESS, BAD - LESS);
        }
    }

    @Sentence(promise = 14, says = "BAD")
    static void changeToAShareTooSmallOrTooLarge(Due due) {
        MeanTown x = Due.townOf(FIVE);
        for (int no : new int[] {-1, 3, LOWEST, HIGHEST}) {
            changeIs(due, x, new int[] {0, 1, no}, 1, BAD - LESS, BAD - LESS);
        }
    }

    @Sentence(promise = 14, says = "BAD")
    static void changeOfNoPart(Due due) {
        MeanTown x = Due.townOf(FIVE);
        for (int no : NO_PART) {
            due.is("part " + no, x.change(0, 1, 2, 1, no), BAD - LESS);
        }
    }

    @Sentence(promise = 14, says = "of several the first that a call names")
    static void changeBadComesAheadOfNone(Due due) {
        MeanTown x = Due.townOf(FIVE);
        due.is("part", x.change(0, 1, 2, 4, 2), BAD - LESS);
        due.is("share", x.change(0, 1, 3, 4, 0), BAD - LESS);
        due.is("alike", x.change(4, 4, 1, 4, 0), BAD - LESS);
    }

    // ---- promise 15: pulled

    @Sentence(promise = 15, says = "PULLED DOWN, the first: of the second")
    static void pulledFirstIsAway(Due due) {
        MeanTown x = Due.townOf("g10,p0,g40;01=1,12=2");
        pulledIs(due, x, 0, 1, 10, 1);
        pulledIs(due, x, 2, 1, -20, 1);
    }

    @Sentence(promise = 15, says = "PULLED DOWN: one HOUSE is away (its SHARES are 0)")
    static void allSharesOfThePulledOneAreAway(Due due) {
        MeanTown x = Due.townOf("g0,p0,p0,g60;01=1,12=1,13=1,02=1,23=1");
        due.isFraction("rent of 2", x.rent(2, 0), x.rent(2, 1), 30, 1);
        x.share(0, 1, 0);
        due.isFraction("rent of 2 then", x.rent(2, 0), x.rent(2, 1), 36, 1);
        pulledIs(due, x, 1, 2, -6, 1);
    }

    @Sentence(promise = 15, says = "its SHARES are 0")
    static void firstAndLastHouseLoseTheirShares(Due due) {
        MeanTown x = Due.townOf("p0,g10,p0,p0,p0,p0,g70,p0;01=1,02=1,07=1,67=1");
        due.isFraction("rent of 0", x.rent(0, 0), x.rent(0, 1), 30, 1);
        pulledIs(due, x, 7, 0, -20, 1);
        pulledIs(due, x, 7, 2, -20, 1);
        pulledIs(due, x, 0, 7, 20, 1);
        pulledIs(due, x, 1, 0, 40, 1);
    }

    @Sentence(promise = 15, says = "told above (part 0) and below (part 1; above 0)")
    static void pulledBelow0IsSoAbove(Due due) {
        MeanTown x = Due.townOf("g0,p0,g1;01=1,12=1");
        pulledIs(due, x, 2, 1, -1, 2);
        pulledIs(due, x, 0, 1, 1, 2);
    }

    @Sentence(promise = 15, says = "RENT of another one then less RENT now")
    static void pulledMovesNothing(Due due) {
        MeanTown x = Due.townOf(FIVE);
        pulledIs(due, x, 1, 0, 0, 1);
        pulledIs(due, x, 4, 1, 0, 1);
        pulledIs(due, x, 0, 3, 0, 1);
    }

    @Sentence(promise = 15, says = "RENT of another one then less RENT now")
    static void longestPulledIsExact(Due due) {
        MeanTown x = dense("g99,p0,p0,p0,p0,p0,p0,f0", LONG_RENTS);
        pulledIs(due, x, 5, 1, 8994177819L, 2649365093L);
        pulledIs(due, x, 5, 6, 7492929048L, 2649365093L);
    }

    @Sentence(promise = 15, says = "BAD (also one alike)")
    static void pulledAlike(Due due) {
        MeanTown x = Due.townOf(FIVE);
        for (int h = 0; h < 5; h++) {
            pulledIs(due, x, h, h, BAD - LESS, BAD - LESS);
        }
    }

    @Sentence(promise = 15, says = "BAD")
    static void noHouseIsPulled(Due due) {
        MeanTown x = Due.townOf(FIVE);
        for (int no : NO_HOUSE_OF_5) {
            pulledIs(due, x, no, 1, BAD - LESS, BAD - LESS);
        }
    }

    @Sentence(promise = 15, says = "BAD")
    static void pulledForNoHouse(Due due) {
        MeanTown x = Due.townOf(FIVE);
        for (int no : NO_HOUSE_OF_5) {
            pulledIs(due, x, 1, no, BAD - LESS, BAD - LESS);
        }
    }

    @Sentence(promise = 15, says = "BAD")
    static void pulledOfNoPart(Due due) {
        MeanTown x = Due.townOf(FIVE);
        for (int no : NO_PART) {
            due.is("part " + no, x.pulled(1, 2, no), BAD - LESS);
        }
    }

    @Sentence(promise = 15, says = "NONE (it is not REACHED now, or then), so much less")
    static void pulledForOneNotReachedNow(Due due) {
        pulledIs(due, Due.townOf(FIVE), 1, 4, NONE - LESS, NONE - LESS);
    }

    @Sentence(promise = 15, says = "NONE (it is not REACHED now, or then), so much less")
    static void pulledForOneNotReachedThen(Due due) {
        MeanTown x = Due.townOf("g10,p0,p0;01=1,12=2");
        pulledIs(due, x, 0, 1, NONE - LESS, NONE - LESS);
        pulledIs(due, x, 0, 2, NONE - LESS, NONE - LESS);
        pulledIs(due, x, 1, 2, NONE - LESS, NONE - LESS);
        pulledIs(due, x, 2, 1, 0, 1);
    }

    @Sentence(promise = 15, says = "of several the first that a call names")
    static void pulledBadComesAheadOfNone(Due due) {
        MeanTown x = Due.townOf(FIVE);
        due.is("part", x.pulled(1, 4, 2), BAD - LESS);
        due.is("alike", x.pulled(4, 4, 0), BAD - LESS);
        due.is("no such", x.pulled(5, 4, 0), BAD - LESS);
    }

    @Sentence(promise = 15, says = "What is refused changes nothing")
    static void pulledChangesNothing(Due due) {
        due.changesNothing(Due::rich, x -> {
            x.pulled(1, 2, 0);
            x.pulled(0, 1, 1);
            x.pulled(1, 1, 0);
            x.pulled(1, 4, 0);
            x.pulled(7, 1, 0);
        });
    }
}
