/** Edges of promises 18 to 21: incomes, askings that are best or rest, houses bought. */
final class OwnersEdges {
    private static final int BAD = -1, NOT = -2, NONE = -4;
    private static final int LOWEST = Integer.MIN_VALUE, HIGHEST = Integer.MAX_VALUE;
    private static final int[] NO_PENCE = {-1, 100, LOWEST, HIGHEST};
    /** Numbers of houses that a town of four has not. */
    private static final int[] NO_HOUSE_OF_4 = {-1, 4, 8, LOWEST, HIGHEST};

    private OwnersEdges() {
    }

    private static MeanTown owned(String text, int purse, int... owners) {
        MeanTown x = Due.townOf(text);
        x.purse(purse);
        for (int h = 0; h < owners.length; h++) {
            x.set(h, 0, owners[h]);
        }
        return x;
    }

    private static void incomeIs(Due due, MeanTown x, int owner, long above, long below) {
        due.isFraction("income of " + owner, x.income(owner, 0), x.income(owner, 1), above, below);
    }

    // ---- promise 18: income

    @Sentence(promise = 18, says = "INCOME of an OWNER")
    static void lowestAndHighestOwnerHaveIncome(Due due) {
        MeanTown x = owned("g1,g2,f3,g4", 50, 0, 1, 2, 3);
        for (int owner = 0; owner <= 3; owner++) {
            incomeIs(due, x, owner, owner + 1, 1);
        }
    }

    @Sentence(promise = 18, says = "INCOME of an OWNER: RENTS of the LET HOUSES, together")
    static void rentsOfOneOwnerAreTogether(Due due) {
        MeanTown x = owned("g10,p0,g21,p0;01=1,12=1,23=1", 50, 0, 2, 2, 2);
        incomeIs(due, x, 0, 10, 1);
        incomeIs(due, x, 1, 0, 1);
        incomeIs(due, x, 2, 115, 2);
    }

    @Sentence(promise = 18, says = "LET is a REACHED HOUSE whose RENT is no more than THE PURSE (0 .. 99; 50 at first)")
    static void rentAsMuchAsThePurseIsLet(Due due) {
        MeanTown x = Due.townOf("g50,p0,f51;01=1");
        incomeIs(due, x, 0, 100, 1);
        x.purse(49);
        incomeIs(due, x, 0, 0, 1);
        x.purse(51);
        incomeIs(due, x, 0, 151, 1);
    }

    @Sentence(promise = 18, says = "whose RENT is no more than THE PURSE")
    static void halfAPennyMoreIsNotLet(Due due) {
        MeanTown x = owned("g50,p0,g51;01=1,12=1", 50, 1, 0, 1);
        incomeIs(due, x, 0, 0, 1);
        x.purse(51);
        incomeIs(due, x, 0, 101, 2);
    }

    @Sentence(promise = 18, says = "THE PURSE (0 .. 99")
    static void leastAndMostPurse(Due due) {
        MeanTown x = Due.townOf("g0,f99,p0,g1;12=1");
        x.purse(0);
        incomeIs(due, x, 0, 0, 1);
        x.purse(1);
        incomeIs(due, x, 0, 1, 1);
        x.purse(98);
        incomeIs(due, x, 0, 1, 1);
        x.purse(99);
        incomeIs(due, x, 0, 199, 1);
    }

    @Sentence(promise = 18, says = "RENTS of the LET HOUSES, together")
    static void incomeOfEightHouses(Due due) {
        MeanTown x = Due.townOf("g1,f2,g3,f4,g5,f6,g7,f50");
        incomeIs(due, x, 0, 78, 1);
        x.set(0, 0, 3);
        x.set(7, 0, 3);
        incomeIs(due, x, 3, 51, 1);
        Due.write(x, "g1,f2");
        x.town();
        incomeIs(due, x, 0, 3, 1);
    }

    @Sentence(promise = 18, says = "LET is a REACHED HOUSE")
    static void unreachedHouseIsNotLet(Due due) {
        incomeIs(due, Due.townOf("p7,p8;01=1"), 0, 0, 1);
        incomeIs(due, Due.townOf("g3,p7"), 0, 3, 1);
    }

    @Sentence(promise = 18, says = "Fractions are in lowest terms, told above (part 0) and below (part 1; above 0)")
    static void incomeOfNothing(Due due) {
        for (int owner = 0; owner <= 3; owner++) {
            incomeIs(due, new MeanTown(), owner, 0, 1);
        }
        incomeIs(due, owned("g10,p0,p0,g20;01=1,12=1,23=1", 50, 1, 0, 0, 1), 0, 30, 1);
    }

    @Sentence(promise = 18, says = "BAD")
    static void ownerTooSmallOrTooLarge(Due due) {
        MeanTown x = Due.townOf("g1");
        for (int no : new int[] {-1, 4, LOWEST, HIGHEST}) {
            incomeIs(due, x, no, BAD, BAD);
        }
    }

    @Sentence(promise = 18, says = "BAD")
    static void incomeOfNoPart(Due due) {
        MeanTown x = Due.townOf("g1");
        for (int no : new int[] {-1, 2, LOWEST, HIGHEST}) {
            due.is("part " + no, x.income(0, no), BAD);
        }
    }

    @Sentence(promise = 18, says = "What is refused changes nothing")
    static void incomeChangesNothing(Due due) {
        due.changesNothing(Due::rich, x -> {
            x.income(0, 0);
            x.income(3, 1);
            x.income(4, 0);
            x.income(0, 2);
        });
    }

    // ---- promise 19: best

    @Sentence(promise = 19, says = "BEST of a GATE")
    static void bestIsWhateverTheGateAsksNow(Due due) {
        MeanTown x = owned("g0,p0,f30;01=1,12=1", 40, 0, 0, 1);
        for (int asks : new int[] {0, 40, 99}) {
            x.ask(0, asks);
            due.is("where it asks " + asks, x.best(0), 40);
        }
    }

    @Sentence(promise = 19, says = "that asking (0 .. 99) by which INCOME of its OWNER is most")
    static void leastAndMostAskingIsBest(Due due) {
        MeanTown x = Due.townOf("g5");
        for (int purse : new int[] {0, 1, 50, 98, 99}) {
            x.purse(purse);
            due.is("alone, purse " + purse, x.best(0), purse);
        }
    }

    /** By 1 below 0 the owner would have 9, by 1 above 99 150, if a gate could ask that. */
    @Sentence(promise = 19, says = "that asking (0 .. 99)")
    static void noAskingBeyondTheEdgesIsBest(Due due) {
        MeanTown low = owned("g0,f11,p0,p0;02=1,12=1,03=1,13=1", 5, 0, 1, 0, 0);
        due.is("two houses too dear by 0", low.best(0), 5);
        MeanTown high = owned("g0,f0,p0,p0,p0;02=1,12=1,03=1,13=1,04=1,14=1", 50, 1, 0, 1, 1, 1);
        due.is("three houses dearest by 100", high.best(0), 99);
    }

    /** By 40 the owner has 40 and twice 20, by 80 twice 40; with a third house 120 by 80. */
    @Sentence(promise = 19, says = "of like ones the least")
    static void leastOfLikeAskings(Due due) {
        MeanTown x = owned("g0,f0,p0,p0,p0;02=1,12=1,03=1,13=1,04=1,14=1", 40, 0, 1, 0, 0, 1);
        due.is("80 by 40 and by 80", x.best(0), 40);
        x.set(4, 0, 0);
        due.is("more than the purse", x.best(0), 80);
    }

    @Sentence(promise = 19, says = "of like ones the least")
    static void allAskingsAreLike(Due due) {
        MeanTown x = owned("g77,f90,p0;12=1", 0, 0, 1, 0);
        due.is("nothing to be had", x.best(0), 0);
        x.set(0, 0, 3);
        due.is("of another owner", x.best(0), 0);
    }

    @Sentence(promise = 19, says = "INCOME of its OWNER is most")
    static void housesOfOthersDontCount(Due due) {
        MeanTown x = owned("g0,f0,p0,p0,p0;02=1,12=1,03=1,13=1,04=1,14=1", 40, 2, 1, 1, 1, 1);
        due.is("alone", x.best(0), 40);
        for (int h = 2; h < 5; h++) {
            x.set(h, 0, 2);
        }
        due.is("with three others", x.best(0), 80);
    }

    @Sentence(promise = 19, says = "BAD")
    static void bestOfNoHouse(Due due) {
        MeanTown x = Due.townOf("g1,g2,g3,g4");
        for (int no : NO_HOUSE_OF_4) {
            due.is("house " + no, x.best(no), BAD);
        }
        due.is("of none at all", new MeanTown().best(0), BAD);
    }

    @Sentence(promise = 19, says = "NOT: it is no GATE")
    static void bestOfOneThatIsNoGate(Due due) {
        MeanTown x = Due.townOf("p1,g2,c3,f4");
        due.is("plain", x.best(0), NOT);
        due.is("gate", x.best(1), 50);
        due.is("capped", x.best(2), NOT);
        due.is("frozen", x.best(3), NOT);
    }

    @Sentence(promise = 19, says = "What is refused changes nothing")
    static void bestChangesNothing(Due due) {
        due.changesNothing(Due::rich, x -> {
            x.best(0);
            x.best(1);
            x.best(3);
            x.best(7);
        });
    }

    // ---- promise 20: rests

    @Sentence(promise = 20, says = "RESTS: how many (0), the first as 100 times the first GATE's asking and the second's (1)")
    static void restsAreCountedAndTheFirstIsTold(Due due) {
        MeanTown x = owned("g0,g0,p0,p0,p0;02=2,12=2,03=1,13=1,23=2,14=1,24=2", 21, 0, 1, 1, 0, 0);
        due.is("three", x.rests(0, 1, 0), 3);
        due.is("the first: 0 and 33", x.rests(0, 1, 1), 33);
        due.is("three, other way round", x.rests(1, 0, 0), 3);
        due.is("the first, other way round: 0 and 44", x.rests(1, 0, 1), 44);
    }

    @Sentence(promise = 20, says = "pairs of askings, each one of 0, 11, 22 .. 99")
    static void leastAndMostOfTheAskings(Due due) {
        MeanTown x = owned("g1,g2", 99, 0, 1);
        due.is("one", x.rests(0, 1, 0), 1);
        due.is("99 and 99", x.rests(0, 1, 1), 9999);
        x.purse(98);
        due.is("88 and 88", x.rests(0, 1, 1), 8888);
        x.purse(10);
        due.is("all that bring nothing", x.rests(0, 1, 0), 100);
        due.is("0 and 0", x.rests(0, 1, 1), 0);
        x.purse(11);
        due.is("11 and 11", x.rests(0, 1, 1), 1111);
        due.is("no other", x.rests(0, 1, 0), 1);
    }

    @Sentence(promise = 20, says = "by which neither OWNER would have more by another one of these: how many, the first")
    static void askingsThatBringNothingRest(Due due) {
        MeanTown x = owned("g0,g0", 0, 0, 1);
        due.is("all", x.rests(0, 1, 0), 100);
        due.is("the first of all", x.rests(0, 1, 1), 0);
        due.is("the first, other way round", x.rests(1, 0, 1), 0);
    }

    /** The first gate has most by 0, as a house beside it is let then alone; the second has nothing. */
    @Sentence(promise = 20, says = "each one of 0, 11, 22 .. 99, by which neither OWNER would have more")
    static void onlyAsking0RestsForOneGate(Due due) {
        MeanTown x = owned("g9,g9,f10,p0;23=1,03=1", 5, 0, 1, 2, 0);
        due.is("0 and each of ten", x.rests(0, 1, 0), 10);
        due.is("the first", x.rests(0, 1, 1), 0);
        x.purse(40);
        due.is("and then another", x.rests(0, 1, 1), 3333);
        x.purse(5);
        due.is("each of ten and 0", x.rests(1, 0, 0), 10);
        due.is("the first, other way round", x.rests(1, 0, 1), 0);
    }

    @Sentence(promise = 20, says = "NONE: there are none (1)")
    static void noPairRests(Due due) {
        MeanTown x = owned("g0,g0,p0,p0,p0;01=1,02=1,13=1,04=2,14=1,24=2,34=2", 21, 0, 1, 1, 0, 1);
        due.is("how many", x.rests(0, 1, 0), 0);
        due.is("the first", x.rests(0, 1, 1), NONE);
        due.is("the first, other way round", x.rests(1, 0, 1), NONE);
    }

    @Sentence(promise = 20, says = "BAD: also one alike")
    static void restsOfOneGate(Due due) {
        MeanTown x = owned("g1,g2,p3,f4", 50, 0, 1, 2, 3);
        for (int h = 0; h < 4; h++) {
            due.is("alike " + h, x.rests(h, h, 0), BAD);
        }
    }

    @Sentence(promise = 20, says = "BAD")
    static void restsOfNoHouse(Due due) {
        MeanTown x = owned("g1,g2,g3,g4", 50, 0, 1, 2, 3);
        for (int no : NO_HOUSE_OF_4) {
            due.is("first " + no, x.rests(no, 1, 0), BAD);
            due.is("second " + no, x.rests(0, no, 0), BAD);
        }
    }

    @Sentence(promise = 20, says = "BAD")
    static void restsTooSmallOrTooLargeThing(Due due) {
        MeanTown x = owned("g1,g2", 50, 0, 1);
        for (int no : new int[] {-1, 2, LOWEST, HIGHEST}) {
            due.is("what " + no, x.rests(0, 1, no), BAD);
        }
    }

    @Sentence(promise = 20, says = "NOT: one is no GATE")
    static void restsOfOneThatIsNoGate(Due due) {
        MeanTown x = owned("g1,p2,c3,f4", 50, 0, 1, 1, 1);
        for (int h = 1; h < 4; h++) {
            for (int what = 0; what <= 1; what++) {
                due.is("second " + h, x.rests(0, h, what), NOT);
                due.is("first " + h, x.rests(h, 0, what), NOT);
            }
        }
    }

    @Sentence(promise = 20, says = "RESTS of two GATES of unlike OWNERS")
    static void restsOfUnlikeOwners(Due due) {
        MeanTown x = owned("g1,g2", 50, 2, 3);
        due.is("unlike", x.rests(0, 1, 0), 1);
        x.set(1, 0, 2);
        due.is("alike", x.rests(0, 1, 0), NOT);
    }

    @Sentence(promise = 20, says = "OWNERS are alike")
    static void restsOfOneOwner(Due due) {
        MeanTown x = Due.townOf("g1,g2");
        for (int owner = 0; owner <= 3; owner++) {
            x.set(0, 0, owner);
            x.set(1, 0, owner);
            due.is("how many", x.rests(0, 1, 0), NOT);
            due.is("the first", x.rests(0, 1, 1), NOT);
        }
    }

    @Sentence(promise = 20, says = "of several the first that a call names")
    static void restsBadComesAheadOfNot(Due due) {
        MeanTown x = owned("g1,p2,g3", 50, 0, 1, 0);
        due.is("what, no gate", x.rests(0, 1, 2), BAD);
        due.is("what, owners alike", x.rests(0, 2, -1), BAD);
        due.is("alike, no gate", x.rests(1, 1, 0), BAD);
        due.is("no such house, no gate", x.rests(1, 3, 0), BAD);
    }

    @Sentence(promise = 20, says = "What is refused changes nothing")
    static void restsChangesNothing(Due due) {
        due.changesNothing(OwnersEdges::twoGates, x -> {
            x.rests(0, 1, 0);
            x.rests(1, 0, 1);
            x.rests(0, 2, 0);
            x.rests(0, 0, 0);
        });
    }

    private static MeanTown twoGates() {
        return owned("g13,g17,p5;02=1,12=2", 40, 0, 1, 1);
    }

    // ---- promise 21: bought

    @Sentence(promise = 21, says = "BOUGHT at v (0 .. 99), for a HOUSE and a limit (0 .. 99): the set")
    static void leastAndMostLimitAndPrice(Due due) {
        MeanTown x = Due.townOf("g99,p0,p0;01=1,12=1");
        due.is("limit 0 at 0", x.bought(2, 0, 0), 2);
        due.is("limit 98 at 98", x.bought(2, 98, 98), 2);
        due.is("limit 98 at 99", x.bought(2, 98, 99), NONE);
        due.is("limit 99 at 99", x.bought(2, 99, 99), 0);
        due.is("limit 99 at 0", x.bought(2, 99, 0), 0);
    }

    @Sentence(promise = 21, says = "BAD")
    static void limitTooSmallOrTooLarge(Due due) {
        MeanTown x = Due.townOf("g99,p0;01=1");
        for (int no : NO_PENCE) {
            due.is("limit " + no, x.bought(1, no, 0), BAD);
        }
    }

    @Sentence(promise = 21, says = "BAD")
    static void priceTooSmallOrTooLarge(Due due) {
        MeanTown x = Due.townOf("g99,p0;01=1");
        for (int no : NO_PENCE) {
            due.is("at " + no, x.bought(1, 99, no), BAD);
        }
    }

    @Sentence(promise = 21, says = "BAD")
    static void boughtForNoHouse(Due due) {
        MeanTown x = Due.townOf("g1,p2,p3,p4;01=1,12=1,23=1");
        for (int no : NO_HOUSE_OF_4) {
            due.is("house " + no, x.bought(no, 99, 0), BAD);
        }
    }

    @Sentence(promise = 21, says = "NOT: it is FIXED")
    static void boughtForAFixedOne(Due due) {
        MeanTown x = Due.townOf("g1,f2,p3,c4;02=1,12=1,23=1");
        due.is("gate", x.bought(0, 99, 0), NOT);
        due.is("frozen", x.bought(1, 99, 0), NOT);
        due.is("plain", x.bought(2, 99, 0), 0);
        due.is("capped", x.bought(3, 99, 0), 0);
    }

    @Sentence(promise = 21, says = "of several the first that a call names")
    static void boughtBadComesAheadOfNot(Due due) {
        MeanTown x = Due.townOf("g1,p2;01=1");
        due.is("limit", x.bought(0, 100, 0), BAD);
        due.is("price", x.bought(0, 99, 100), BAD);
    }

    @Sentence(promise = 21, says = "the fewest (none, too) by which the told one is REACHED and its RENT no more than a limit")
    static void noneNeedsToBeBought(Due due) {
        MeanTown x = Due.townOf("g40,p0,p0;01=1,12=1");
        due.is("as much as the limit", x.bought(2, 40, 0), 0);
        due.is("less than the limit", x.bought(2, 41, 0), 0);
        due.is("more than the limit", x.bought(2, 39, 0), 2);
    }

    @Sentence(promise = 21, says = "its RENT no more than a limit")
    static void halfAPennyMoreThanTheLimit(Due due) {
        MeanTown x = Due.townOf("g10,p0,g11;01=1,12=1");
        due.is("10 1/2 and 10", x.bought(1, 10, 0), NONE);
        due.is("10 1/2 and 11", x.bought(1, 11, 0), 0);
    }

    @Sentence(promise = 21, says = "by which the told one is REACHED")
    static void boughtOnesReachAHouse(Due due) {
        MeanTown x = Due.townOf("p0,p0,c0,p0;01=1,12=1");
        due.is("one beside", x.bought(0, 99, 99), 2);
        due.is("one beside, the first", x.bought(1, 99, 99), 1);
        due.is("a capped one too", Due.townOf("p0,c0;01=1").bought(0, 5, 5), 2);
        due.is("too dear", x.bought(0, 98, 99), NONE);
        due.is("none is beside", x.bought(3, 99, 0), NONE);
    }

    @Sentence(promise = 21, says = "the fewest (none, too)")
    static void oneOfAHighNumberIsFewerThanTwo(Due due) {
        MeanTown x = Due.townOf("p0,p0,p0,p0,g90;32=1,20=1,21=1,04=1,14=1");
        due.is("house 2, not 0 and 1", x.bought(3, 20, 0), 4);
        due.is("house 0 is enough", x.bought(3, 30, 0), 1);
    }

    @Sentence(promise = 21, says = "of like ones the least set")
    static void leastOfLikeSets(Due due) {
        MeanTown x = Due.townOf("g90,p0,p0,p0,p0;01=1,12=1,23=1,34=1");
        due.is("house 1, not 2 or 3", x.bought(4, 50, 0), 2);
        MeanTown two = Due.townOf("p0,p0,p0,p0,g90;04=1,14=1,24=1,03=1,13=1,23=1");
        due.is("0 and 1 of three", two.bought(3, 30, 0), 3);
    }

    @Sentence(promise = 21, says = "Sets are bits")
    static void highestHouseIsBought(Due due) {
        MeanTown x = Due.townOf("p0,g99,p0,p0,p0,p0,p0,p0;01=1,07=2");
        due.is("house 7", x.bought(0, 33, 0), 128);
        due.is("not for less", x.bought(0, 32, 0), NONE);
    }

    @Sentence(promise = 21, says = "the fewest (none, too)")
    static void allThatMayBeAreBought(Due due) {
        MeanTown x = Due.townOf("g99,p0,p0,p0,p0,p0,p0,p0;01=1,02=1,03=1,04=1,05=1,06=1");
        for (int h = 1; h < 7; h++) {
            x.share(h, 7, 2);
        }
        due.is("six", x.bought(7, 0, 0), 0b1111110);
    }

    @Sentence(promise = 21, says = "a set of HOUSES that are not FIXED, without a told one")
    static void fixedOnesAndTheToldOneAreNotBought(Due due) {
        due.is("a gate", Due.townOf("g90,p0;01=1").bought(1, 89, 0), NONE);
        due.is("a frozen one", Due.townOf("f90,p0;01=1").bought(1, 89, 0), NONE);
        due.is("itself", Due.townOf("p0").bought(0, 99, 0), NONE);
        due.is("itself, though it asks little", Due.townOf("g90,c0;01=1").bought(1, 50, 0), NONE);
    }

    @Sentence(promise = 21, says = "that then ASK v as FROZEN ones do")
    static void boughtOnesAskThePrice(Due due) {
        MeanTown x = Due.townOf("g90,p0,p0;01=1,12=1,02=1");
        due.is("(90 and 20) / 2 is 55", x.bought(1, 55, 20), 4);
        due.is("and not less", x.bought(1, 54, 20), NONE);
        due.is("(90 and 21) / 2 is more", x.bought(1, 55, 21), NONE);
    }

    @Sentence(promise = 21, says = "NONE: by none")
    static void noSetIsEnough(Due due) {
        MeanTown x = Due.townOf("g90,p0,p0;01=1,12=1");
        due.is("dear ones", x.bought(2, 10, 11), NONE);
        due.is("not so dear", x.bought(2, 10, 10), 2);
        due.is("a gate beside", x.bought(1, 44, 0), NONE);
        due.is("45", x.bought(1, 45, 0), 4);
    }

    @Sentence(promise = 21, says = "What is refused changes nothing")
    static void boughtChangesNothing(Due due) {
        due.changesNothing(Due::rich, x -> {
            x.bought(1, 0, 0);
            x.bought(2, 99, 0);
            x.bought(4, 9, 5);
            x.bought(0, 9, 5);
            x.bought(1, 100, 5);
        });
    }
}
