/** Edges of promises 8 and 9: the tape, and towns as texts. */
final class TextEdges {
    private static final int BAD = -1, FULL = -3;
    private static final int LOWEST = Integer.MIN_VALUE, HIGHEST = Integer.MAX_VALUE;
    private static final String EIGHT = "p1,p2,p3,p4,p5,p6,p7,p8";
    private static final String TWELVE = "01=1,02=1,03=1,04=1,05=1,06=1,07=1,12=1,13=1,14=1,15=1,16=1";

    private TextEdges() {
    }

    private static MeanTown typed(String text) {
        MeanTown x = new MeanTown();
        Due.write(x, text);
        return x;
    }

    private static String blanks(int many) {
        return " ".repeat(many);
    }

    /** The text is a town of so many houses. */
    private static void isTown(Due due, String text, int houses) {
        MeanTown x = typed(text);
        due.is("town '" + text + "'", x.town(), houses);
        due.is("its houses", x.count(0), houses);
    }

    /** The byte at the place, counted from 0, can't stand there. */
    private static void isFault(Due due, String text, int place) {
        due.is("town '" + text + "'", typed(text).town(), -20 - place);
    }

    // ---- promise 8: type

    @Sentence(promise = 8, says = "come behind THE TAPE: how many it has")
    static void oneToEightBytesAtOnce(Due due) {
        int has = 0;
        MeanTown x = new MeanTown();
        for (int n = 1; n <= 8; n++) {
            has += n;
            due.is(n + " more", x.type(Due.packed(blanks(8)), n), has);
        }
    }

    @Sentence(promise = 8, says = "BAD: n")
    static void tooFewBytes(Due due) {
        MeanTown x = new MeanTown();
        long w = Due.packed("pppppppp");
        due.is("0", x.type(w, 0), BAD);
        due.is("-1", x.type(w, -1), BAD);
        due.is("lowest", x.type(w, LOWEST), BAD);
    }

    @Sentence(promise = 8, says = "BAD: n")
    static void tooManyBytes(Due due) {
        MeanTown x = new MeanTown();
        long w = Due.packed("pppppppp");
        due.is("9", x.type(w, 9), BAD);
        due.is("highest", x.type(w, HIGHEST), BAD);
    }

    @Sentence(promise = 8, says = "The n lowest bytes (1 .. 8) of w")
    static void higherBytesDontCount(Due due) {
        MeanTown x = new MeanTown();
        due.is("a byte 0 above", x.type('p', 1), 1);
        due.is("bytes 255 above", x.type(-1L << 8 | '4', 1), 2);
        due.is("bytes 120 above", x.type(Due.packed("xxxxxx,g"), 2), 4);
        due.is("no byte above", x.type(Due.packed("5;01=2  "), 8), 12);
        due.is("p4,g5;01=2", x.town(), 2);
        due.is("asks 4", x.told(0, 1), 4);
        due.is("asks 5", x.told(1, 1), 5);
    }

    @Sentence(promise = 8, says = "of these the highest first")
    static void highestByteComesFirst(Due due) {
        MeanTown x = typed("p12");
        due.is("p12", x.town(), 1);
        due.is("asks 12", x.told(0, 1), 12);
    }

    @Sentence(promise = 8, says = "a byte not 32 .. 126")
    static void byteTooSmall(Due due) {
        for (int sign : new int[] {31, 10, 1, 0}) {
            due.is("byte " + sign, new MeanTown().type(sign, 1), BAD);
        }
    }

    @Sentence(promise = 8, says = "a byte not 32 .. 126")
    static void byteTooLarge(Due due) {
        for (int sign : new int[] {127, 128, 129, 160, 200, 255}) {
            due.is("byte " + sign, new MeanTown().type(sign, 1), BAD);
        }
    }

    @Sentence(promise = 8, says = "a byte not 32 .. 126")
    static void leastAndMostByte(Due due) {
        MeanTown x = new MeanTown();
        due.is("byte 32", x.type(32, 1), 1);
        due.is("byte 126", x.type(126, 1), 2);
        due.is("it stands there", x.town(), -21);
    }

    @Sentence(promise = 8, says = "a byte not 32 .. 126")
    static void wrongByteInEachPlace(Due due) {
        for (int place = 0; place < 8; place++) {
            long others = Due.packed("pppppppp") & ~(255L << 8 * place);
            due.is("31 at " + place, new MeanTown().type(others | 31L << 8 * place, 8), BAD);
            due.is("127 at " + place, new MeanTown().type(others | 127L << 8 * place, 8), BAD);
            due.is("255 at " + place, new MeanTown().type(others | 255L << 8 * place, 8), BAD);
        }
    }

    @Sentence(promise = 8, says = "FULL: 100")
    static void hundredBytesAreAll(Due due) {
        MeanTown x = typed(blanks(92));
        due.is("100", x.type(Due.packed(blanks(8)), 8), 100);
        due.is("one more", x.type(' ', 1), FULL);
        due.is("eight more", x.type(Due.packed(blanks(8)), 8), FULL);
        MeanTown y = typed(blanks(99));
        due.is("the last one", y.type(' ', 1), 100);
        due.is("the next one", y.type(' ', 1), FULL);
    }

    @Sentence(promise = 8, says = "FULL: 100")
    static void whatDoesNotFitIsRefusedWhole(Due due) {
        MeanTown x = typed(blanks(95));
        for (int n = 6; n <= 8; n++) {
            due.is(n + " behind 95", x.type(Due.packed(blanks(8)), n), FULL);
        }
        due.is("5 behind 95", x.type(Due.packed(blanks(5)), 5), 100);
    }

    @Sentence(promise = 8, says = "of several the first that a call names")
    static void badComesAheadOfFull(Due due) {
        MeanTown x = typed(blanks(100));
        due.is("n 0", x.type(' ', 0), BAD);
        due.is("n 9", x.type(' ', 9), BAD);
        due.is("byte 31", x.type(31, 1), BAD);
        due.is("byte 127", x.type(127, 1), BAD);
    }

    @Sentence(promise = 8, says = "What is refused changes nothing")
    static void refusedBytesAreNotTyped(Due due) {
        due.changesNothing(Due::rich, x -> {
            x.type('9', 0);
            x.type('9', 9);
            x.type('9' << 8 | 31, 2);
            x.type(127 << 8 | '9', 2);
        });
        due.changesNothing(() -> typed("p4" + blanks(96)), x -> x.type(Due.packed(",g5"), 3));
    }

    // ---- promise 9: town

    @Sentence(promise = 9, says = "THE TAPE, which is empty then")
    static void tapeIsEmptyBehindATown(Due due) {
        MeanTown x = typed("p1,p2;01=1");
        due.is("a town", x.town(), 2);
        due.is("the empty tape", x.town(), -20);
        due.is("one byte", x.type('p', 1), 1);
    }

    @Sentence(promise = 9, says = "THE TAPE, which is empty then")
    static void tapeIsEmptyBehindAFault(Due due) {
        MeanTown x = typed("p1,p2;01=3");
        due.is("a fault", x.town(), -29);
        due.is("the empty tape", x.town(), -20);
        due.is("one byte", x.type('p', 1), 1);
    }

    @Sentence(promise = 9, says = "A FAULT (all stays)")
    static void allStaysBehindAFault(Due due) {
        String[] faults = {"x", "p", "p1,p2,p3,p4,p100", "g1,f2;", "g1,f2;01=1,", "g1,f2;01=2,10=1", EIGHT + ",",
            "p9,p9,p9,p9,p9,p9,p9,p9;67=2,01=x"};
        for (String fault : faults) {
            due.changesNothing(() -> readAway(Due.rich()), x -> {
                Due.write(x, fault);
                due.holds("'" + fault + "' is a fault", x.town() <= -20);
            });
        }
    }

    /** The object with an empty tape, as a fault leaves it. */
    private static MeanTown readAway(MeanTown x) {
        Due.write(x, "?");
        x.town();
        return x;
    }

    @Sentence(promise = 9, says = "A TOWN is a TEXT: 1 to 8 HOUSES with , between")
    static void emptyTextIsNoTown(Due due) {
        isFault(due, "", 0);
        isFault(due, blanks(1), 1);
        isFault(due, blanks(100), 100);
    }

    @Sentence(promise = 9, says = "1 to 8 HOUSES with , between")
    static void oneHouseAndEight(Due due) {
        isTown(due, "p1", 1);
        isTown(due, EIGHT, 8);
        MeanTown x = typed(EIGHT);
        x.town();
        for (int h = 0; h < 8; h++) {
            due.is("house " + h + " asks", x.told(h, 1), h + 1);
        }
    }

    @Sentence(promise = 9, says = "1 to 8 HOUSES with , between")
    static void ninthHouseCantStandThere(Due due) {
        isFault(due, EIGHT + ",p9", 23);
        isFault(due, EIGHT + ",", 23);
        isFault(due, EIGHT + blanks(2) + ",p9", 25);
    }

    @Sentence(promise = 9, says = "1 to 8 HOUSES with , between")
    static void betweenHousesIsAComma(Due due) {
        isFault(due, "p1g2", 2);
        isFault(due, "p1,,g2", 3);
        isFault(due, ",p1", 0);
        isFault(due, "p1.g2", 2);
        isFault(due, "p1,;", 3);
    }

    @Sentence(promise = 9, says = "p g c f (KINDS in this order)")
    static void lettersAreKinds(Due due) {
        MeanTown x = typed("p1,g2,c3,f4");
        due.is("four", x.town(), 4);
        for (int h = 0; h < 4; h++) {
            due.is("kind", x.told(h, 0), h);
            due.is("asks", x.told(h, 1), h + 1);
        }
    }

    @Sentence(promise = 9, says = "p g c f (KINDS in this order)")
    static void otherLettersCantStandThere(Due due) {
        for (String letter : new String[] {"a", "o", "q", "P", "G", "C", "F", "b", "d", "e", "h", "1", "~", "="}) {
            isFault(due, letter + "1", 0);
            isFault(due, "p1," + letter + "1", 3);
        }
    }

    @Sentence(promise = 9, says = "a number 0 .. 99 (what it ASKS)")
    static void leastAndMostNumber(Due due) {
        MeanTown x = typed("g0,p99");
        due.is("two", x.town(), 2);
        due.is("0", x.told(0, 1), 0);
        due.is("99", x.told(1, 1), 99);
    }

    @Sentence(promise = 9, says = "of a number that may not be its first byte")
    static void numberTooLarge(Due due) {
        isFault(due, "p100", 1);
        isFault(due, "p999", 1);
        isFault(due, "p" + blanks(3) + "100", 4);
        isFault(due, "p1,g100,x", 4);
        isFault(due, "p100x", 1);
    }

    /** 2^32 and 1, 2^64 and 1, and others that come down to a small one where digits are lost. */
    @Sentence(promise = 9, says = "of a number that may not be its first byte")
    static void numberTooLargeForTheMachine(Due due) {
        isFault(due, "p256", 1);
        isFault(due, "p65537", 1);
        isFault(due, "p2147483648", 1);
        isFault(due, "p4294967297", 1);
        isFault(due, "p18446744073709551617", 1);
        isFault(due, "p1" + "0".repeat(98), 1);
    }

    @Sentence(promise = 9, says = "a number 0 .. 99 (what it ASKS)")
    static void numberIsNotThere(Due due) {
        isFault(due, "p", 1);
        isFault(due, "pp", 1);
        isFault(due, "p,g1", 1);
        isFault(due, "p;", 1);
        isFault(due, "p-1", 1);
        isFault(due, "p/", 1);
        isFault(due, "p:", 1);
    }

    @Sentence(promise = 9, says = "bytes 32 count for nothing, but end a number")
    static void blanksCountForNothing(Due due) {
        MeanTown x = typed("  p  12  ,  g  3  ;  0  1  =  2  ");
        due.is("two", x.town(), 2);
        due.is("asks 12", x.told(0, 1), 12);
        due.is("asks 3", x.told(1, 1), 3);
        due.is("share 2", x.share(0, 1, 0), 2);
    }

    @Sentence(promise = 9, says = "bytes 32 count for nothing, but end a number")
    static void blanksEndANumber(Due due) {
        isFault(due, "p1 2", 3);
        isFault(due, "p1" + blanks(4) + "2", 6);
        isFault(due, "p0 5,g1", 3);
        isFault(due, "p10 0", 4);
    }

    @Sentence(promise = 9, says = "then perhaps ; and 1 to 12 SHARES with , between")
    static void noShareBehindASemicolon(Due due) {
        isFault(due, "p1,g2;", 6);
        isFault(due, "p1,g2;" + blanks(2), 8);
        isFault(due, "p1;", 3);
        isFault(due, "p1,g2;;", 6);
        isFault(due, "p1,g2;,", 6);
    }

    @Sentence(promise = 9, says = "1 to 12 SHARES with , between")
    static void oneShareAndTwelve(Due due) {
        MeanTown one = typed("p1,g2;01=2");
        due.is("one", one.town(), 2);
        due.is("a pair", one.count(3), 1);
        MeanTown twelve = typed(EIGHT + ";" + TWELVE);
        due.is("twelve", twelve.town(), 8);
        due.is("twelve pairs", twelve.count(3), 12);
    }

    @Sentence(promise = 9, says = "1 to 12 SHARES with , between")
    static void thirteenthShareCantStandThere(Due due) {
        isFault(due, EIGHT + ";" + TWELVE + ",17=1", 83);
        isFault(due, EIGHT + ";" + TWELVE + ",", 83);
    }

    @Sentence(promise = 9, says = "1 to 12 SHARES with , between")
    static void betweenSharesIsAComma(Due due) {
        isFault(due, "p1,g2,g3;01=1;02=1", 13);
        isFault(due, "p1,g2,g3;01=1,,02=1", 14);
        isFault(due, "p1,g2,g3;01=102=1", 13);
        isFault(due, "p1,g2,g3;01=1 02=1", 14);
    }

    @Sentence(promise = 9, says = "two unlike digits (of these HOUSES)")
    static void lastHouseMayBeNamed(Due due) {
        isTown(due, "p1,g2;10=1", 2);
        isTown(due, EIGHT + ";07=1", 8);
        isTown(due, EIGHT + ";70=1", 8);
    }

    @Sentence(promise = 9, says = "two unlike digits (of these HOUSES)")
    static void digitOfNoHouse(Due due) {
        isFault(due, "p1,g2;20=1", 6);
        isFault(due, "p1,g2;02=1", 7);
        isFault(due, "p1,g2;0 9=1", 8);
        isFault(due, EIGHT + ";80=1", 24);
        isFault(due, EIGHT + ";08=1", 25);
        isFault(due, EIGHT + ";0/=1", 25);
        isFault(due, "p1,g2;x1=1", 6);
        isFault(due, "p1,g2;0=1", 7);
    }

    @Sentence(promise = 9, says = "= and a digit 0 .. 2")
    static void leastAndMostShare(Due due) {
        MeanTown x = typed("p1,g2,g3;01=0,02=2,12=1");
        due.is("three", x.town(), 3);
        due.is("0", x.share(0, 1, 0), 0);
        due.is("2", x.share(0, 2, 0), 2);
        due.is("1", x.share(1, 2, 0), 1);
    }

    @Sentence(promise = 9, says = "= and a digit 0 .. 2")
    static void shareTooLarge(Due due) {
        isFault(due, "p1,g2;01=3", 9);
        isFault(due, "p1,g2;01=9", 9);
        isFault(due, "p1,g2;01=20", 10);
        isFault(due, "p1,g2;01=00", 10);
        isFault(due, "p1,g2;01=-1", 9);
        isFault(due, "p1,g2;01=/", 9);
    }

    @Sentence(promise = 9, says = "= and a digit 0 .. 2")
    static void equalsSignIsNotThere(Due due) {
        isFault(due, "p1,g2;011", 8);
        isFault(due, "p1,g2;01 1", 9);
        isFault(due, "p1,g2;01==1", 9);
    }

    @Sentence(promise = 9, says = "of a pair told twice, or of one HOUSE, the second digit")
    static void pairToldTwice(Due due) {
        isFault(due, "p1,g2;01=1,01=1", 12);
        isFault(due, "p1,g2;01=1,10=1", 12);
        isFault(due, "p1,g2;01=0,01=0", 12);
        isFault(due, "p1,g2;10=1, 0 1=1", 14);
        isFault(due, "p1,g2,p3;12=1,01=1,21=1", 20);
        isFault(due, EIGHT + ";67=1,01=1,76=1", 35);
    }

    @Sentence(promise = 9, says = "of a pair told twice, or of one HOUSE, the second digit")
    static void shareOfOneHouse(Due due) {
        isFault(due, "p1,g2;00=1", 7);
        isFault(due, "p1,g2;1 1=1", 8);
        isFault(due, EIGHT + ";77=0", 25);
    }

    @Sentence(promise = 9, says = "FAULTS: -20 less the place of the first byte (behind blanks) that can't stand there")
    static void firstOfSeveralFaults(Due due) {
        isFault(due, "x100,00=3", 0);
        isFault(due, "p100,x", 1);
        isFault(due, "p1,x2,p100", 3);
        isFault(due, "p1,g2;00=3,55=9", 7);
        isFault(due, blanks(5) + "x", 5);
        isFault(due, "p1" + blanks(3) + "x", 5);
    }

    @Sentence(promise = 9, says = "(the end: how many bytes there are)")
    static void textEndsTooEarly(Due due) {
        String whole = "p1,g2;01=1,";
        for (int bytes : new int[] {0, 1, 3, 4, 6, 7, 8, 9, 11}) {
            isFault(due, whole.substring(0, bytes), bytes);
            isFault(due, whole.substring(0, bytes) + blanks(3), bytes + 3);
        }
    }

    @Sentence(promise = 9, says = "(the end: how many bytes there are)")
    static void hundredBytesAreRead(Due due) {
        isFault(due, "p" + blanks(99), 100);
        isFault(due, "p1" + blanks(97) + "x", 99);
        String most = blanks(17) + EIGHT + ";" + TWELVE.replace("16=1", "76=2");
        MeanTown x = typed(most);
        due.is("bytes", most.length(), 100);
        due.is("eight", x.town(), 8);
        due.is("its last share", x.share(6, 7, 0), 2);
    }

    @Sentence(promise = 9, says = "in place of all HOUSES (OWNERS 0, CAPS 99, other SHARES 0")
    static void townTakesThePlaceOfAll(Due due) {
        MeanTown x = Due.townOf("g1,p2,c3,f4;01=2,12=2,23=2,03=2");
        for (int h = 0; h < 4; h++) {
            x.set(h, 0, 3);
            x.set(h, 1, 5);
        }
        Due.write(x, "c9,f8;01=1");
        due.is("two", x.town(), 2);
        int[][] want = {{2, 9, 0, 99, 1, 1}, {3, 8, 0, 99, 1, 1}};
        for (int h = 0; h < 2; h++) {
            for (int what = 0; what <= 5; what++) {
                due.is("house " + h + " told " + what, x.told(h, what), want[h][what]);
            }
        }
        due.is("the third is away", x.told(2, 0), BAD);
        due.is("the next one", x.house(0, 0), 2);
        due.is("has no share", x.told(2, 4), 0);
        due.is("of owner 0", x.told(2, 2), 0);
        due.is("cap 99", x.told(2, 3), 99);
    }

    @Sentence(promise = 9, says = "in place of all HOUSES")
    static void townOfMoreThanThereWere(Due due) {
        MeanTown x = Due.townOf("g1");
        Due.write(x, EIGHT);
        due.is("eight", x.town(), 8);
        due.is("no gate", x.count(1), 0);
    }

    @Sentence(promise = 9, says = "THE PURSE, YEARS stay")
    static void purseAndYearsStay(Due due) {
        MeanTown x = new MeanTown();
        x.purse(7);
        x.year();
        x.year();
        Due.write(x, "p1");
        due.is("one", x.town(), 1);
        due.is("years", x.count(4), 2);
        due.is("purse", x.purse(7), 7);
    }

    @Sentence(promise = 9, says = "in place of all HOUSES")
    static void imageStaysBehindATown(Due due) {
        MeanTown x = Due.townOf("f5,p6;01=2");
        x.image();
        Due.write(x, "g1,p2,p3;12=1");
        x.town();
        due.is("the image", x.restore(), 1);
        due.is("its houses", x.count(0), 2);
        due.is("its share", x.share(0, 1, 0), 2);
        due.is("its asking", x.told(0, 1), 5);
    }
}
