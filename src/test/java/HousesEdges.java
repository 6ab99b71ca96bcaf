/** Edges of promises 1 to 7 and 10: houses and what they are told. */
final class HousesEdges {
    private static final int BAD = -1, NOT = -2, FULL = -3;
    private static final int LOWEST = Integer.MIN_VALUE, HIGHEST = Integer.MAX_VALUE;
    /** Numbers of houses that a town of three has not. */
    private static final int[] NO_HOUSE_OF_3 = {-1, 3, 7, 8, LOWEST, HIGHEST};

    private HousesEdges() {
    }

    private static MeanTown full() {
        MeanTown x = new MeanTown();
        for (int h = 0; h < 8; h++) {
            x.house(h % 4, h);
        }
        return x;
    }

    private static void pairAll(MeanTown x, int v) {
        for (int a = 0; a < 8; a++) {
            for (int b = 0; b < a; b++) {
                x.share(a, b, v);
            }
        }
    }

    // ---- promise 1: a new object

    @Sentence(promise = 1, says = "No house")
    static void newObjectHasNoHouse(Due due) {
        MeanTown x = new MeanTown();
        due.is("how many", x.count(0), 0);
        due.is("house 0", x.told(0, 0), BAD);
        due.is("the first is 0", x.house(0, 0), 0);
    }

    @Sentence(promise = 1, says = "No house")
    static void newObjectCountsNothing(Due due) {
        MeanTown x = new MeanTown();
        for (int what = 0; what <= 4; what++) {
            due.is("count " + what, x.count(what), 0);
        }
    }

    @Sentence(promise = 1, says = "nothing (at first)")
    static void newObjectHasNoRow(Due due) {
        MeanTown x = new MeanTown();
        for (int s = 0; s <= 3; s++) {
            due.is("sheet " + s, x.drop(s), MeanTown.NULL);
        }
    }

    @Sentence(promise = 1, says = "No house")
    static void newObjectHasAnEmptyTape(Due due) {
        due.is("one byte more", new MeanTown().type('p', 1), 1);
        due.is("the empty text", new MeanTown().town(), -20);
    }

    @Sentence(promise = 1, says = "No house")
    static void twoObjectsHaveNothingInCommon(Due due) {
        MeanTown x = Due.rich();
        due.changesNothing(MeanTown::new, y -> x.purse(1));
    }

    @Sentence(promise = 1, says = "An object is used for at most 512 calls after it has been made")
    static void callNumber512IsAnswered(Due due) {
        MeanTown x = new MeanTown();
        x.house(1, 10);
        x.house(0, 0);
        x.share(0, 1, 1);
        for (int call = 4; call <= 510; call++) {
            x.ask(0, call % 100);
        }
        due.is("call 511", x.year(), 1);
        due.is("call 512", x.told(1, 1), 10);
    }

    @Sentence(promise = 1, says = "BAD -1 (a number is not as told, there is no such thing), NOT -2 (as told), FULL -3")
    static void refusedAnswersHaveTheirNumbers(Due due) {
        int[] got = {MeanTown.BAD, MeanTown.NOT, MeanTown.FULL, MeanTown.NONE, MeanTown.NULL, MeanTown.CAST,
            MeanTown.INDEX, MeanTown.SIZE};
        int[] want = {-1, -2, -3, -4, -11, -12, -13, -14};
        for (int k = 0; k < want.length; k++) {
            due.is("constant " + k, got[k], want[k]);
        }
    }

    // ---- promise 2: house

    @Sentence(promise = 2, says = "A HOUSE: its number")
    static void housesAreNumberedFrom0To7(Due due) {
        MeanTown x = new MeanTown();
        for (int h = 0; h <= 7; h++) {
            due.is("number", x.house(0, 0), h);
        }
    }

    @Sentence(promise = 2, says = "HOUSES 0 .. 7, as they come")
    static void nextNumberIsHowManyThereAre(Due due) {
        MeanTown x = Due.townOf("p1,p2,p3");
        due.is("behind a text of three", x.house(0, 0), 3);
        x.image();
        x.house(0, 0);
        x.restore();
        due.is("behind an image of four", x.house(0, 0), 4);
    }

    @Sentence(promise = 2, says = "0 PLAIN; below it 1 GATE, 2 CAPPED; 3 FROZEN (below GATE)")
    static void lowestAndHighestKind(Due due) {
        MeanTown x = new MeanTown();
        for (int kind = 0; kind <= 3; kind++) {
            due.is("kind " + kind, x.house(kind, 0), kind);
            due.is("told kind " + kind, x.told(kind, 0), kind);
        }
    }

    @Sentence(promise = 2, says = "BAD")
    static void kindTooSmall(Due due) {
        due.is("-1", new MeanTown().house(-1, 0), BAD);
        due.is("lowest", new MeanTown().house(LOWEST, 0), BAD);
    }

    @Sentence(promise = 2, says = "BAD")
    static void kindTooLarge(Due due) {
        due.is("4", new MeanTown().house(4, 0), BAD);
        due.is("highest", new MeanTown().house(HIGHEST, 0), BAD);
    }

    @Sentence(promise = 2, says = "Each ASKS a number of pence (0 .. 99)")
    static void leastAndMostAsking(Due due) {
        for (int kind = 0; kind <= 3; kind++) {
            MeanTown x = new MeanTown();
            due.is("asks 0", x.house(kind, 0), 0);
            due.is("asks 99", x.house(kind, 99), 1);
            due.is("told 0", x.told(0, 1), 0);
            due.is("told 99", x.told(1, 1), 99);
        }
    }

    @Sentence(promise = 2, says = "BAD")
    static void askingTooSmall(Due due) {
        due.is("-1", new MeanTown().house(0, -1), BAD);
        due.is("lowest", new MeanTown().house(3, LOWEST), BAD);
    }

    @Sentence(promise = 2, says = "BAD")
    static void askingTooLarge(Due due) {
        due.is("100", new MeanTown().house(0, 100), BAD);
        due.is("highest", new MeanTown().house(3, HIGHEST), BAD);
    }

    @Sentence(promise = 2, says = "FULL: 8")
    static void ninthHouseIsRefused(Due due) {
        MeanTown x = full();
        due.is("eight are there", x.count(0), 8);
        due.is("the ninth", x.house(0, 0), FULL);
        due.is("again", x.house(3, 99), FULL);
        due.is("eight stay", x.count(0), 8);
    }

    @Sentence(promise = 2, says = "FULL: 8")
    static void eightOfATextAreFull(Due due) {
        MeanTown x = Due.townOf("p0,p0,p0,p0,p0,p0,p0,p0");
        due.is("the ninth", x.house(0, 0), FULL);
    }

    @Sentence(promise = 2, says = "of several the first that a call names")
    static void badComesAheadOfFull(Due due) {
        MeanTown x = full();
        due.is("kind", x.house(4, 0), BAD);
        due.is("asking", x.house(0, 100), BAD);
    }

    @Sentence(promise = 2, says = "What is refused changes nothing")
    static void refusedHouseIsNotThere(Due due) {
        due.changesNothing(Due::rich, x -> {
            x.house(-1, 0);
            x.house(4, 0);
            x.house(0, -1);
            x.house(0, 100);
        });
        due.changesNothing(HousesEdges::full, x -> x.house(1, 55));
    }

    @Sentence(promise = 2, says = "each HOUSE has one (0 at first)")
    static void newHouseIsOfOwner0(Due due) {
        MeanTown x = new MeanTown();
        x.image();
        x.house(0, 0);
        x.set(0, 0, 3);
        x.restore();
        due.is("in an old one's place", x.house(0, 0), 0);
        due.is("owner", x.told(0, 2), 0);
    }

    @Sentence(promise = 2, says = "99 at first")
    static void newHouseHasCap99(Due due) {
        MeanTown x = new MeanTown();
        x.image();
        x.house(2, 0);
        x.set(0, 1, 3);
        x.restore();
        due.is("in an old one's place", x.house(2, 0), 0);
        due.is("cap", x.told(0, 3), 99);
    }

    @Sentence(promise = 2, says = "0 at first")
    static void newHouseHasNoShare(Due due) {
        MeanTown x = Due.townOf("g1");
        x.image();
        x.house(0, 0);
        x.share(0, 1, 2);
        x.restore();
        due.is("in an old one's place", x.house(0, 0), 1);
        due.is("weight", x.told(1, 4), 0);
        due.is("share", x.share(0, 1, 1), 0);
    }

    // ---- promise 3: share

    @Sentence(promise = 3, says = "SHARE of two: what it was")
    static void shareAnswersWhatItWas(Due due) {
        MeanTown x = Due.townOf("p0,p0");
        due.is("0, becomes 2", x.share(0, 1, 2), 0);
        due.is("2, becomes 1", x.share(0, 1, 1), 2);
        due.is("1, becomes 0", x.share(0, 1, 0), 1);
        due.is("0 again", x.share(0, 1, 0), 0);
    }

    @Sentence(promise = 3, says = "Two HOUSES have a SHARE in one another (0 .. 2; 0 at first)")
    static void shareIsOfBoth(Due due) {
        MeanTown x = Due.townOf("p0,p0,p0");
        due.is("at first", x.share(2, 0, 2), 0);
        due.is("the other way round", x.share(0, 2, 1), 2);
        due.is("and back", x.share(2, 0, 0), 1);
        due.is("of the third none", x.told(1, 4), 0);
    }

    @Sentence(promise = 3, says = "0 at first")
    static void everyPairIsAt0AtFirst(Due due) {
        MeanTown x = full();
        for (int a = 0; a < 8; a++) {
            for (int b = 0; b < a; b++) {
                due.is("share of " + a + " and " + b, x.share(a, b, 2), 0);
            }
        }
    }

    @Sentence(promise = 3, says = "BAD")
    static void shareTooSmall(Due due) {
        MeanTown x = Due.townOf("p0,p0");
        due.is("-1", x.share(0, 1, -1), BAD);
        due.is("lowest", x.share(0, 1, LOWEST), BAD);
    }

    @Sentence(promise = 3, says = "BAD")
    static void shareTooLarge(Due due) {
        MeanTown x = Due.townOf("p0,p0");
        due.is("3", x.share(0, 1, 3), BAD);
        due.is("highest", x.share(0, 1, HIGHEST), BAD);
    }

    @Sentence(promise = 3, says = "BAD")
    static void shareOfNoFirstHouse(Due due) {
        MeanTown x = Due.townOf("p0,p0,p0");
        for (int no : NO_HOUSE_OF_3) {
            due.is("first " + no, x.share(no, 1, 1), BAD);
        }
    }

    @Sentence(promise = 3, says = "BAD")
    static void shareOfNoSecondHouse(Due due) {
        MeanTown x = Due.townOf("p0,p0,p0");
        for (int no : NO_HOUSE_OF_3) {
            due.is("second " + no, x.share(1, no, 1), BAD);
        }
    }

    @Sentence(promise = 3, says = "BAD: also one alike")
    static void shareOfOneHouse(Due due) {
        MeanTown x = full();
        for (int h = 0; h < 8; h++) {
            due.is("alike " + h, x.share(h, h, 1), BAD);
            due.is("alike, without a share", x.share(h, h, 0), BAD);
        }
    }

    @Sentence(promise = 3, says = "What is refused changes nothing")
    static void refusedShareStays(Due due) {
        due.changesNothing(Due::rich, x -> {
            x.share(0, 1, -1);
            x.share(0, 1, 3);
            x.share(0, 0, 1);
            x.share(0, 7, 1);
            x.share(-1, 0, 1);
        });
    }

    @Sentence(promise = 3, says = "BESIDE one are those with which it has one above 0")
    static void shareOf0IsNotBeside(Due due) {
        MeanTown x = Due.townOf("g5,p0;01=1");
        due.is("beside", x.told(1, 5), 1);
        x.share(0, 1, 0);
        due.is("no longer", x.told(1, 5), 0);
        due.is("no pair", x.count(3), 0);
    }

    // ---- promise 4: ask

    @Sentence(promise = 4, says = "A HOUSE ASKS v: what it asked")
    static void leastAndMostMayBeAsked(Due due) {
        MeanTown x = Due.townOf("p1,g2,c3");
        for (int h = 0; h < 3; h++) {
            due.is("99", x.ask(h, 99), h + 1);
            due.is("told 99", x.told(h, 1), 99);
            due.is("0", x.ask(h, 0), 99);
            due.is("told 0", x.told(h, 1), 0);
        }
    }

    @Sentence(promise = 4, says = "BAD")
    static void askTooSmall(Due due) {
        MeanTown x = Due.townOf("g5");
        due.is("-1", x.ask(0, -1), BAD);
        due.is("lowest", x.ask(0, LOWEST), BAD);
    }

    @Sentence(promise = 4, says = "BAD")
    static void askTooLarge(Due due) {
        MeanTown x = Due.townOf("g5");
        due.is("100", x.ask(0, 100), BAD);
        due.is("highest", x.ask(0, HIGHEST), BAD);
    }

    @Sentence(promise = 4, says = "BAD")
    static void askOfNoHouse(Due due) {
        MeanTown x = Due.townOf("g1,g2,g3");
        for (int no : NO_HOUSE_OF_3) {
            due.is("house " + no, x.ask(no, 1), BAD);
        }
        due.is("of none at all", new MeanTown().ask(0, 0), BAD);
    }

    @Sentence(promise = 4, says = "NOT: it is FROZEN")
    static void frozenCantBeAsked(Due due) {
        MeanTown x = Due.townOf("f5");
        due.is("another number", x.ask(0, 6), NOT);
        due.is("the same number", x.ask(0, 5), NOT);
        due.is("asks as ahead", x.told(0, 1), 5);
    }

    @Sentence(promise = 4, says = "FIXED are GATES and FROZEN ones (FROZEN ones can't be told to ASK another number)")
    static void gateCanBeAsked(Due due) {
        MeanTown x = Due.townOf("g5");
        due.is("another number", x.ask(0, 6), 5);
        due.is("asks it", x.told(0, 1), 6);
    }

    @Sentence(promise = 4, says = "a GATE as much as it is told, others as below")
    static void gateAsksAsToldAfterAYear(Due due) {
        MeanTown x = Due.townOf("g5,f99;01=2");
        x.ask(0, 6);
        x.year();
        due.is("a gate beside another one", x.told(0, 1), 6);
    }

    @Sentence(promise = 4, says = "of several the first that a call names")
    static void badComesAheadOfFrozen(Due due) {
        MeanTown x = Due.townOf("f5");
        due.is("too much", x.ask(0, 100), BAD);
        due.is("too little", x.ask(0, -1), BAD);
    }

    @Sentence(promise = 4, says = "What is refused changes nothing")
    static void refusedAskingStays(Due due) {
        due.changesNothing(Due::rich, x -> {
            x.ask(0, -1);
            x.ask(0, 100);
            x.ask(7, 5);
            x.ask(-1, 5);
            x.ask(3, 5);
        });
    }

    // ---- promise 5: set

    @Sentence(promise = 5, says = "OWNER (0), CAP (1) of a HOUSE becomes v: what it was")
    static void ownerAndCapAreTwoThings(Due due) {
        MeanTown x = Due.townOf("p0,c0");
        due.is("owner", x.set(1, 0, 2), 0);
        due.is("cap", x.set(1, 1, 3), 99);
        due.is("owner then", x.set(1, 0, 1), 2);
        due.is("cap then", x.set(1, 1, 4), 3);
        due.is("the other one's owner", x.told(0, 2), 0);
        due.is("the other one's cap", x.told(0, 3), 99);
    }

    @Sentence(promise = 5, says = "OWNERS 0 .. 3: each HOUSE has one (0 at first)")
    static void lowestAndHighestOwner(Due due) {
        MeanTown x = Due.townOf("p0");
        due.is("at first 0, becomes 3", x.set(0, 0, 3), 0);
        due.is("3, becomes 0", x.set(0, 0, 0), 3);
        due.is("0", x.told(0, 2), 0);
    }

    @Sentence(promise = 5, says = "a CAPPED one no more than its CAP (0 .. 99; 99 at first)")
    static void lowestAndHighestCap(Due due) {
        MeanTown x = Due.townOf("c0");
        due.is("at first 99, becomes 0", x.set(0, 1, 0), 99);
        due.is("0, becomes 99", x.set(0, 1, 99), 0);
        due.is("99", x.told(0, 3), 99);
    }

    @Sentence(promise = 5, says = "BAD (OWNER 0 .. 3")
    static void ownerTooSmall(Due due) {
        MeanTown x = Due.townOf("p0");
        due.is("-1", x.set(0, 0, -1), BAD);
        due.is("lowest", x.set(0, 0, LOWEST), BAD);
    }

    @Sentence(promise = 5, says = "BAD (OWNER 0 .. 3")
    static void ownerTooLarge(Due due) {
        MeanTown x = Due.townOf("p0");
        due.is("4", x.set(0, 0, 4), BAD);
        due.is("99, as of a cap", x.set(0, 0, 99), BAD);
        due.is("highest", x.set(0, 0, HIGHEST), BAD);
    }

    @Sentence(promise = 5, says = "BAD (OWNER 0 .. 3, CAP 0 .. 99)")
    static void capTooSmall(Due due) {
        MeanTown x = Due.townOf("c0");
        due.is("-1", x.set(0, 1, -1), BAD);
        due.is("lowest", x.set(0, 1, LOWEST), BAD);
    }

    @Sentence(promise = 5, says = "BAD (OWNER 0 .. 3, CAP 0 .. 99)")
    static void capTooLarge(Due due) {
        MeanTown x = Due.townOf("c0");
        due.is("100", x.set(0, 1, 100), BAD);
        due.is("highest", x.set(0, 1, HIGHEST), BAD);
    }

    @Sentence(promise = 5, says = "BAD")
    static void setNeitherOwnerNorCap(Due due) {
        MeanTown x = Due.townOf("c0");
        for (int what : new int[] {-1, 2, LOWEST, HIGHEST}) {
            due.is("what " + what, x.set(0, what, 1), BAD);
        }
    }

    @Sentence(promise = 5, says = "BAD")
    static void setOfNoHouse(Due due) {
        MeanTown x = Due.townOf("p0,p0,p0");
        for (int no : NO_HOUSE_OF_3) {
            due.is("owner of " + no, x.set(no, 0, 1), BAD);
            due.is("cap of " + no, x.set(no, 1, 1), BAD);
        }
    }

    @Sentence(promise = 5, says = "What is refused changes nothing")
    static void refusedOwnerAndCapStay(Due due) {
        due.changesNothing(Due::rich, x -> {
            x.set(0, 0, -1);
            x.set(0, 0, 4);
            x.set(0, 1, -1);
            x.set(0, 1, 100);
            x.set(0, 2, 1);
            x.set(0, -1, 1);
            x.set(7, 0, 1);
            x.set(-1, 1, 1);
        });
    }

    // ---- promise 6: purse

    @Sentence(promise = 6, says = "50 at first")
    static void purseIs50AtFirst(Due due) {
        due.is("at first", new MeanTown().purse(50), 50);
        due.is("whatever comes", new MeanTown().purse(0), 50);
    }

    @Sentence(promise = 6, says = "THE PURSE: what it was")
    static void leastAndMostPurse(Due due) {
        MeanTown x = new MeanTown();
        due.is("becomes 0", x.purse(0), 50);
        due.is("0, becomes 99", x.purse(99), 0);
        due.is("99, becomes 1", x.purse(1), 99);
        due.is("1", x.purse(1), 1);
    }

    @Sentence(promise = 6, says = "BAD")
    static void purseTooSmall(Due due) {
        due.is("-1", new MeanTown().purse(-1), BAD);
        due.is("lowest", new MeanTown().purse(LOWEST), BAD);
    }

    @Sentence(promise = 6, says = "BAD")
    static void purseTooLarge(Due due) {
        due.is("100", new MeanTown().purse(100), BAD);
        due.is("highest", new MeanTown().purse(HIGHEST), BAD);
    }

    @Sentence(promise = 6, says = "What is refused changes nothing")
    static void refusedPurseStays(Due due) {
        due.changesNothing(Due::rich, x -> {
            x.purse(-1);
            x.purse(100);
        });
    }

    // ---- promise 7: told

    @Sentence(promise = 7, says = "0 KIND, 1 what it ASKS, 2 OWNER, 3 CAP, 4 WEIGHT, 5 whether REACHED (1, 0)")
    static void eachThingIsTold(Due due) {
        MeanTown x = Due.townOf("g1,c7;01=2");
        x.set(1, 0, 3);
        x.set(1, 1, 33);
        int[] want = {2, 7, 3, 33, 2, 1};
        for (int what = 0; what <= 5; what++) {
            due.is("told " + what, x.told(1, what), want[what]);
        }
    }

    @Sentence(promise = 7, says = "BAD")
    static void toldTooSmallThing(Due due) {
        MeanTown x = Due.townOf("g1");
        due.is("-1", x.told(0, -1), BAD);
        due.is("lowest", x.told(0, LOWEST), BAD);
    }

    @Sentence(promise = 7, says = "BAD")
    static void toldTooLargeThing(Due due) {
        MeanTown x = Due.townOf("g1");
        due.is("6", x.told(0, 6), BAD);
        due.is("highest", x.told(0, HIGHEST), BAD);
    }

    @Sentence(promise = 7, says = "BAD")
    static void toldOfNoHouse(Due due) {
        MeanTown x = Due.townOf("g1,g2,g3");
        for (int what = 0; what <= 5; what++) {
            for (int no : NO_HOUSE_OF_3) {
                due.is("told " + what + " of " + no, x.told(no, what), BAD);
            }
        }
    }

    @Sentence(promise = 7, says = "WEIGHT of a HOUSE: its SHARES together")
    static void leastAndMostWeight(Due due) {
        MeanTown x = full();
        for (int h = 0; h < 8; h++) {
            due.is("alone", x.told(h, 4), 0);
        }
        pairAll(x, 2);
        for (int h = 0; h < 8; h++) {
            due.is("beside all by 2", x.told(h, 4), 14);
        }
        pairAll(x, 1);
        due.is("beside all by 1", x.told(0, 4), 7);
    }

    @Sentence(promise = 7, says = "REACHED is a HOUSE that is FIXED")
    static void fixedOnesAreReachedAlone(Due due) {
        MeanTown x = Due.townOf("p0,g0,c0,f0");
        for (int h = 0; h < 4; h++) {
            due.is("kind " + h, x.told(h, 5), h % 2);
        }
    }

    @Sentence(promise = 7, says = "or BESIDE a REACHED one")
    static void farthestHouseIsReached(Due due) {
        MeanTown x = Due.townOf("p0,p0,p0,p0,g0,p0,p0,p0;42=1,20=1,06=1,61=1,15=1,53=1,37=1");
        for (int h = 0; h < 8; h++) {
            due.is("reached " + h, x.told(h, 5), 1);
        }
        x.share(3, 7, 0);
        due.is("the last, cut off", x.told(7, 5), 0);
        due.is("the last but one", x.told(3, 5), 1);
        x.share(4, 2, 0);
        due.is("the last but one, cut off at the gate", x.told(3, 5), 0);
        due.is("the gate", x.told(4, 5), 1);
    }

    @Sentence(promise = 7, says = "or BESIDE a REACHED one")
    static void noHouseIsReachedWithoutAFixedOne(Due due) {
        MeanTown x = Due.townOf("p0,c0,p0;01=2,12=2,02=2");
        for (int h = 0; h < 3; h++) {
            due.is("reached " + h, x.told(h, 5), 0);
        }
    }

    // ---- promise 10: count

    @Sentence(promise = 10, says = "How many: 0 HOUSES, 1 FIXED, 2 REACHED, 3 pairs with a SHARE, 4 YEARS so far")
    static void countsOfAnEmptyTown(Due due) {
        MeanTown x = new MeanTown();
        for (int what = 0; what <= 3; what++) {
            due.is("count " + what, x.count(what), 0);
        }
        x.year();
        due.is("a year without houses", x.count(4), 1);
    }

    @Sentence(promise = 10, says = "How many: 0 HOUSES, 1 FIXED, 2 REACHED, 3 pairs with a SHARE, 4 YEARS so far")
    static void countsOfAFullTown(Due due) {
        MeanTown x = full();
        int[] alone = {8, 4, 4, 0, 0};
        for (int what = 0; what <= 4; what++) {
            due.is("alone, count " + what, x.count(what), alone[what]);
        }
        pairAll(x, 2);
        x.year();
        x.year();
        int[] beside = {8, 4, 8, 28, 2};
        for (int what = 0; what <= 4; what++) {
            due.is("beside all, count " + what, x.count(what), beside[what]);
        }
    }

    @Sentence(promise = 10, says = "3 pairs with a SHARE")
    static void pairsWithShare0DontCount(Due due) {
        MeanTown x = Due.townOf("p0,p0,p0;01=0,12=2,02=1");
        due.is("two", x.count(3), 2);
        x.share(2, 1, 0);
        due.is("one", x.count(3), 1);
        x.share(2, 0, 0);
        due.is("none", x.count(3), 0);
    }

    @Sentence(promise = 10, says = "BAD")
    static void countTooSmall(Due due) {
        due.is("-1", new MeanTown().count(-1), BAD);
        due.is("lowest", new MeanTown().count(LOWEST), BAD);
    }

    @Sentence(promise = 10, says = "BAD")
    static void countTooLarge(Due due) {
        due.is("5", new MeanTown().count(5), BAD);
        due.is("highest", new MeanTown().count(HIGHEST), BAD);
    }
}
