/** Edges of promises 16, 17, 22 and 23: years, by when all are near, images. */
final class YearsEdges {
    private static final int BAD = -1, FULL = -3, NONE = -4;
    private static final int LOWEST = Integer.MIN_VALUE, HIGHEST = Integer.MAX_VALUE;
    private static final int MOST_YEARS = 9999;

    private YearsEdges() {
    }

    private static void asksAre(Due due, MeanTown x, int... asks) {
        for (int h = 0; h < asks.length; h++) {
            due.is("house " + h + " asks", x.told(h, 1), asks[h]);
        }
    }

    // ---- promise 16: year

    @Sentence(promise = 16, says = "A YEAR: how many HOUSES ask otherwise than ahead of it")
    static void yearCountsWhoAsksOtherwise(Due due) {
        MeanTown x = Due.townOf("g10,p0,p10,p7;01=1,02=1");
        due.is("one of three", x.year(), 1);
        asksAre(due, x, 10, 10, 10, 7);
        due.is("none", x.year(), 0);
        due.is("two years", x.count(4), 2);
    }

    @Sentence(promise = 16, says = "how many HOUSES ask otherwise than ahead of it")
    static void yearOfAllAndOfNone(Due due) {
        due.is("without houses", new MeanTown().year(), 0);
        MeanTown x = Due.townOf("p1,p0,p1,p0,p1,p0,p1,p0;01=1,12=1,23=1,34=1,45=1,56=1,67=1,70=1");
        due.is("all eight", x.year(), 8);
        asksAre(due, x, 0, 1, 0, 1, 0, 1, 0, 1);
    }

    @Sentence(promise = 16, says = "each times the SHARE, together, by its WEIGHT, cut")
    static void yearIsCut(Due due) {
        MeanTown x = Due.townOf("g99,p0,f0;01=2,12=1");
        x.year();
        asksAre(due, x, 99, 66, 0);
        x.ask(0, 98);
        x.year();
        asksAre(due, x, 98, 65, 0);
        MeanTown one = Due.townOf("g1,p5,f0;01=1,12=2");
        one.year();
        asksAre(due, one, 1, 0, 0);
    }

    @Sentence(promise = 16, says = "Divisions are cut")
    static void yearOfTheMostPenceAndShares(Due due) {
        MeanTown x = Due.townOf("p0,g99,g99,g99,g99,g99,g99,g98;01=2,02=2,03=2,04=2,05=2,06=2,07=2");
        x.year();
        due.is("98 and 12 of 14", x.told(0, 1), 98);
        x.ask(7, 99);
        x.year();
        due.is("99", x.told(0, 1), 99);
    }

    @Sentence(promise = 16, says = "each HOUSE that is not FIXED")
    static void fixedOnesAskTheSame(Due due) {
        MeanTown x = Due.townOf("g10,f20,p30;01=2,02=1,12=1");
        due.is("the plain one", x.year(), 1);
        asksAre(due, x, 10, 20, 15);
    }

    @Sentence(promise = 16, says = "WEIGHT above 0, asks what those BESIDE it asked in the year ahead")
    static void houseWithoutWeightAsksTheSame(Due due) {
        MeanTown x = Due.townOf("p30,c40,g10;02=0");
        x.set(1, 1, 5);
        due.is("none", x.year(), 0);
        asksAre(due, x, 30, 40, 10);
    }

    @Sentence(promise = 16, says = "asks what those BESIDE it asked in the year ahead")
    static void unreachedHousesAskTheMeanToo(Due due) {
        MeanTown x = Due.townOf("p8,p3;01=2");
        due.is("both", x.year(), 2);
        asksAre(due, x, 3, 8);
    }

    @Sentence(promise = 16, says = "All at once")
    static void allHousesAskAtOnce(Due due) {
        MeanTown x = Due.townOf("g90,p60,p30,p0;01=1,12=1,23=1");
        due.is("one", x.year(), 1);
        asksAre(due, x, 90, 60, 30, 30);
        x.ask(3, 0);
        x.ask(1, 0);
        x.ask(2, 50);
        due.is("three", x.year(), 3);
        asksAre(due, x, 90, 70, 0, 50);
    }

    @Sentence(promise = 16, says = "a CAPPED one no more than its CAP (0 .. 99; 99 at first)")
    static void capIsTheMost(Due due) {
        MeanTown x = Due.townOf("g50,c0;01=1");
        int[][] capAndAsking = {{50, 50}, {49, 49}, {51, 50}, {0, 0}, {99, 50}, {1, 1}};
        for (int[] pair : capAndAsking) {
            x.set(1, 1, pair[0]);
            x.year();
            due.is("cap " + pair[0], x.told(1, 1), pair[1]);
        }
    }

    @Sentence(promise = 16, says = "a CAPPED one no more than its CAP")
    static void capsOfOthersDontCount(Due due) {
        MeanTown x = Due.townOf("g50,p0,f60;01=1");
        for (int h = 0; h < 3; h++) {
            x.set(h, 1, 10);
        }
        x.year();
        asksAre(due, x, 50, 50, 60);
    }

    @Sentence(promise = 16, says = "99 at first")
    static void cap99HoldsNothingBack(Due due) {
        MeanTown x = Due.townOf("g99,c0;01=2");
        x.year();
        asksAre(due, x, 99, 99);
    }

    /** Years like this one are beyond what a run can have, but nothing else shows this sentence. */
    @Sentence(promise = 16, says = "FULL: 9999 were")
    static void tenThousandthYearIsRefused(Due due) {
        MeanTown x = Due.townOf("g10,p0;01=1");
        int refused = 0;
        for (int y = 0; y < MOST_YEARS; y++) {
            refused += x.year() < 0 ? 1 : 0;
        }
        due.is("refused", refused, 0);
        due.is("9999 were", x.count(4), MOST_YEARS);
        x.ask(0, 20);
        due.is("one more", x.year(), FULL);
        due.is("9999 still", x.count(4), MOST_YEARS);
        asksAre(due, x, 20, 10);
    }

    // ---- promise 17: near

    @Sentence(promise = 17, says = "NEAR (pence 0 .. 99)")
    static void leastAndMostPence(Due due) {
        MeanTown x = Due.townOf("g99,p0;01=1");
        due.is("0", x.near(0), 1);
        due.is("98", x.near(98), 1);
        due.is("99", x.near(99), 0);
    }

    @Sentence(promise = 17, says = "BAD")
    static void penceTooSmall(Due due) {
        MeanTown x = Due.townOf("g99,p0;01=1");
        due.is("-1", x.near(-1), BAD);
        due.is("lowest", x.near(LOWEST), BAD);
        due.is("without houses", new MeanTown().near(-1), BAD);
    }

    @Sentence(promise = 17, says = "BAD")
    static void penceTooLarge(Due due) {
        MeanTown x = Due.townOf("g99,p0;01=1");
        due.is("100", x.near(100), BAD);
        due.is("highest", x.near(HIGHEST), BAD);
    }

    @Sentence(promise = 17, says = "NEAR: in how many YEARS (0 .. 60)")
    static void sixtyYearsAreNear(Due due) {
        MeanTown x = Due.townOf("g0,p99,p0,p99,p0,p78,p0;01=1,12=1,23=2,34=2,45=2,56=2");
        due.is("60 years", x.near(20), 60);
        x.year();
        due.is("59 years", x.near(20), 59);
    }

    @Sentence(promise = 17, says = "NONE: not in 60 YEARS")
    static void sixtyOneYearsAreNot(Due due) {
        MeanTown x = Due.townOf("g99,p0,p52,p21,p99,p27,p39,p0;01=2,12=2,23=1,34=2,45=2,56=2,67=1");
        due.is("61 years", x.near(32), NONE);
        x.year();
        due.is("60 years", x.near(32), 60);
    }

    @Sentence(promise = 17, says = "NONE: not in 60 YEARS")
    static void neverNear(Due due) {
        MeanTown x = Due.townOf("g10,c0;01=1");
        x.set(1, 1, 4);
        due.is("kept 6 away", x.near(5), NONE);
        due.is("6 are near", x.near(6), 1);
    }

    @Sentence(promise = 17, says = "no farther from their RENTS than told pence")
    static void fractionsOfAPennyCount(Due due) {
        MeanTown x = Due.townOf("g10,p10,g11;01=1,12=1");
        due.is("half a penny below", x.near(0), NONE);
        due.is("a penny", x.near(1), 0);
        x.ask(1, 12);
        due.is("a penny and a half above", x.near(1), 1);
        due.is("two pence", x.near(2), 0);
    }

    @Sentence(promise = 17, says = "no farther from their RENTS than told pence")
    static void justAsFarAsToldIsNear(Due due) {
        MeanTown above = Due.townOf("g10,p15;01=1");
        due.is("5 above, 5 told", above.near(5), 0);
        due.is("5 above, 4 told", above.near(4), 1);
        MeanTown below = Due.townOf("g10,p5;01=1");
        due.is("5 below, 5 told", below.near(5), 0);
        due.is("5 below, 4 told", below.near(4), 1);
    }

    @Sentence(promise = 17, says = "all REACHED HOUSES ask what is no farther")
    static void unreachedHousesMayBeFar(Due due) {
        due.is("none is reached", Due.townOf("p0,p99;01=1").near(0), 0);
        due.is("no house", new MeanTown().near(0), 0);
        due.is("two are not", Due.townOf("g5,p5,p0,p99;01=1,23=1").near(0), 0);
        due.is("the last one is reached", Due.townOf("g5,p5,p5,p0;01=1,12=1,13=1").near(4), 1);
    }

    @Sentence(promise = 17, says = "all REACHED HOUSES ask what is no farther")
    static void firstAndLastHouseCount(Due due) {
        MeanTown x = Due.townOf("p0,g5,g5,g5,g5,g5,g5,p0;01=1,67=1");
        due.is("both are far", x.near(4), 1);
        x.ask(7, 5);
        due.is("the first is far", x.near(4), 1);
        x.ask(0, 5);
        due.is("none is far", x.near(4), 0);
        x.ask(7, 0);
        due.is("the last is far", x.near(4), 1);
    }

    @Sentence(promise = 17, says = "for the first time")
    static void nearNowAndFarThen(Due due) {
        MeanTown x = Due.townOf("g10,c10;01=1");
        x.set(1, 1, 0);
        due.is("now", x.near(0), 0);
        x.year();
        due.is("never more", x.near(9), NONE);
    }

    @Sentence(promise = 17, says = "What is refused changes nothing")
    static void nearChangesNothing(Due due) {
        due.changesNothing(Due::rich, x -> {
            x.near(0);
            x.near(20);
            x.near(99);
            x.near(100);
            x.near(-1);
        });
    }

    // ---- promise 22: image

    @Sentence(promise = 22, says = "All but SHEETS, THE TAPE is kept as an IMAGE: 1")
    static void imageKeepsAll(Due due) {
        MeanTown x = Due.townOf("g10,p20,c30,f40;01=1,12=2,23=1");
        x.set(2, 0, 3);
        x.set(2, 1, 44);
        x.purse(12);
        x.year();
        due.is("image", x.image(), 1);
        spoil(x);
        due.is("restore", x.restore(), 1);
        int[][] want = {{1, 10, 0, 99, 1, 1}, {0, 23, 0, 99, 3, 1}, {2, 26, 3, 44, 3, 1}, {3, 40, 0, 99, 1, 1}};
        for (int h = 0; h < 4; h++) {
            for (int what = 0; what <= 5; what++) {
                due.is("house " + h + " told " + what, x.told(h, what), want[h][what]);
            }
        }
        due.is("houses", x.count(0), 4);
        due.is("years", x.count(4), 1);
        due.is("purse", x.purse(0), 12);
        due.is("a share of 1", x.share(0, 1, 0), 1);
        due.is("a share of 2", x.share(1, 2, 0), 2);
        due.is("no share", x.share(0, 3, 0), 0);
    }

    /** Everything that an image keeps becomes another. */
    private static void spoil(MeanTown x) {
        Due.write(x, "f1,f2,f3,f4,f5,f6,f7,f8;01=2,03=2,12=1,45=1");
        x.town();
        for (int h = 0; h < 8; h++) {
            x.set(h, 0, 1);
            x.set(h, 1, 1);
        }
        x.purse(1);
        x.year();
        x.year();
    }

    @Sentence(promise = 22, says = "All but SHEETS, THE TAPE is kept as an IMAGE")
    static void imageIsNotOfSheets(Due due) {
        MeanTown x = Due.townOf("g5");
        x.sheet(0, 0, 2);
        x.sheet(1, 1, 7);
        x.image();
        x.item(0, 0, 0, 9);
        x.item(0, 0, 1, 9);
        x.drop(1);
        x.sheet(2, 2, 20);
        x.restore();
        due.is("an item stays written", x.item(0, 0, 1, 0), 1);
        due.is("the other one, too", x.book(0, 0, 0), 0);
        due.is("a row stays away", x.drop(1), MeanTown.NULL);
        due.is("a row stays there", x.drop(2), 20);
    }

    @Sentence(promise = 22, says = "All but SHEETS, THE TAPE is kept as an IMAGE")
    static void imageIsNotOfTheTape(Due due) {
        MeanTown x = Due.townOf("g5");
        Due.write(x, "f");
        x.image();
        Due.write(x, "78");
        x.restore();
        due.is("f78", x.town(), 1);
        due.is("asks 78", x.told(0, 1), 78);
        Due.write(x, "p");
        x.image();
        x.town();
        x.restore();
        due.is("the tape stays empty", x.town(), -20);
    }

    @Sentence(promise = 22, says = "is kept as an IMAGE: 1")
    static void laterImageTakesThePlace(Due due) {
        MeanTown x = Due.townOf("g5,g6;01=1");
        x.image();
        x.ask(0, 7);
        due.is("another image", x.image(), 1);
        x.ask(0, 8);
        x.restore();
        due.is("as by the later one", x.told(0, 1), 7);
    }

    @Sentence(promise = 22, says = "is kept as an IMAGE: 1")
    static void imageChangesNothingElse(Due due) {
        due.changesNothing(() -> {
            MeanTown x = Due.rich();
            x.image();
            return x;
        }, MeanTown::image);
    }

    @Sentence(promise = 22, says = "is kept as an IMAGE: 1")
    static void imageOfAnEmptyTown(Due due) {
        MeanTown x = new MeanTown();
        due.is("image", x.image(), 1);
        spoil(x);
        due.is("restore", x.restore(), 1);
        due.is("houses", x.count(0), 0);
        due.is("years", x.count(4), 0);
        due.is("purse", x.purse(50), 50);
    }

    // ---- promise 23: restore

    @Sentence(promise = 23, says = "NONE: there is none")
    static void restoreWithoutAnImage(Due due) {
        due.is("of a new object", new MeanTown().restore(), NONE);
        MeanTown x = Due.townOf("g5");
        due.is("of a town", x.restore(), NONE);
        due.is("again", x.restore(), NONE);
        due.is("the town stays", x.count(0), 1);
    }

    @Sentence(promise = 23, says = "What is refused changes nothing")
    static void refusedRestoreChangesNothing(Due due) {
        due.changesNothing(() -> {
            MeanTown x = Due.townOf("g5,p6,f7;01=1,12=2");
            x.purse(9);
            x.year();
            x.sheet(3, 2, 9);
            Due.write(x, "p7");
            return x;
        }, MeanTown::restore);
    }

    @Sentence(promise = 23, says = "All is as it was then: 1")
    static void imageIsThereForMoreThanOneRestore(Due due) {
        MeanTown x = Due.townOf("g5,p6;01=2");
        x.image();
        for (int round = 0; round < 3; round++) {
            x.ask(0, 50 + round);
            x.share(0, 1, 1);
            x.set(1, 0, 3);
            x.purse(round);
            x.year();
            due.is("restore", x.restore(), 1);
            due.is("asks", x.told(0, 1), 5);
            due.is("asks, beside", x.told(1, 1), 6);
            due.is("weight", x.told(0, 4), 2);
            due.is("owner", x.told(1, 2), 0);
            due.is("years", x.count(4), 0);
            due.is("purse", x.purse(50), 50);
        }
    }

    @Sentence(promise = 23, says = "All is as it was then: 1")
    static void restoreOfFewerHouses(Due due) {
        MeanTown x = Due.townOf("g5");
        x.image();
        spoil(x);
        due.is("restore", x.restore(), 1);
        due.is("one house", x.count(0), 1);
        due.is("no second one", x.told(1, 0), BAD);
        due.is("no pair", x.count(3), 0);
        x.house(0, 3);
        due.is("the next one has no share", x.told(1, 4), 0);
    }

    @Sentence(promise = 23, says = "All is as it was then: 1")
    static void restoreOfMoreHouses(Due due) {
        MeanTown x = Due.townOf("g1,p2,c3,f4,g5,p6,c7,f8;01=2,67=1");
        x.image();
        Due.write(x, "p1");
        x.town();
        due.is("restore", x.restore(), 1);
        due.is("eight houses", x.count(0), 8);
        int[] kinds = {1, 0, 2, 3, 1, 0, 2, 3};
        for (int h = 0; h < 8; h++) {
            due.is("kind", x.told(h, 0), kinds[h]);
            due.is("asks", x.told(h, 1), h + 1);
        }
        due.is("a share", x.share(6, 7, 0), 1);
        due.is("full", x.house(0, 0), FULL);
    }
}
