/** Promises 16 to 23: years, incomes, askings that are best or rest, houses bought, images. */
public final class YearsTest {
    private static final Due due = new Due("YearsTest");
    private static final int BAD = -1, NOT = -2, NONE = -4;
    private static final int[] FAR = {-1, 100, Integer.MIN_VALUE, Integer.MAX_VALUE};

    public static void main(String[] args) {
        year();
        near();
        farYears();
        income();
        best();
        rests();
        manyRests();
        bought();
        boughtNearUnreached();
        image();
        imageOfNothing();
        due.end();
    }

    private static void asksAre(String when, MeanTown x, int... asks) {
        for (int h = 0; h < asks.length; h++) {
            due.is(when + ": house " + h + " asks", x.told(h, 1), asks[h]);
        }
    }

    private static void year() {
        MeanTown x = Due.townOf("g10,p0,c0,f50,p7;01=1,12=1,23=2");
        due.is("first year", x.year(), 2);
        asksAre("first year", x, 10, 5, 33, 50, 7);
        due.is("second year", x.year(), 2);
        asksAre("second year", x, 10, 21, 35, 50, 7);
        x.set(2, 1, 20);
        x.set(1, 1, 3);
        x.set(0, 1, 0);
        due.is("third year", x.year(), 2);
        asksAre("third year", x, 10, 22, 20, 50, 7);
        due.is("fourth year", x.year(), 1);
        asksAre("fourth year", x, 10, 15, 20, 50, 7);
        due.is("years", x.count(4), 4);
        MeanTown unreached = Due.townOf("p8,p3;01=2");
        due.is("all at once, and unreached ones too", unreached.year(), 2);
        asksAre("all at once", unreached, 3, 8);
        MeanTown alone = Due.townOf("c50");
        alone.set(0, 1, 10);
        due.is("no weight", alone.year(), 0);
        asksAre("no weight", alone, 50);
        due.is("a year without houses", new MeanTown().year(), 0);
    }

    private static void near() {
        MeanTown x = Due.townOf("g10,p0,g21,p99,p98;01=1,12=1,34=1");
        due.is("half a penny is too far", x.near(0), NONE);
        due.is("near 1", x.near(1), 1);
        due.is("near 15", x.near(15), 1);
        due.is("near 16", x.near(16), 0);
        due.is("nothing is changed", x.told(1, 1), 0);
        due.is("no year passes", x.count(4), 0);
        MeanTown capped = Due.townOf("g10,c0;01=1");
        due.is("as it asks", capped.near(0), 1);
        due.is("ten are near", capped.near(10), 0);
        capped.set(1, 1, 5);
        due.is("a cap keeps it far", capped.near(4), NONE);
        due.is("but not too far", capped.near(5), 1);
        due.is("nobody is reached", Due.townOf("p0,p9;01=1").near(0), 0);
        for (int far : FAR) {
            due.is("near " + far, x.near(far), BAD);
        }
    }

    private static void farYears() {
        MeanTown sixty = Due.townOf("g0,p99,p0,p99,p0,p78,p0;01=1,12=1,23=2,34=2,45=2,56=2");
        due.is("60 years", sixty.near(20), 60);
        MeanTown more = Due.townOf("g99,p0,p52,p21,p99,p27,p39,p0;01=2,12=2,23=1,34=2,45=2,56=2,67=1");
        due.is("61 years", more.near(32), NONE);
        more.year();
        due.is("a year on", more.near(32), 60);
    }

    private static void incomeIs(MeanTown x, int owner, long above, long below) {
        due.is("income above of " + owner, x.income(owner, 0), above);
        due.is("income below of " + owner, x.income(owner, 1), below);
    }

    private static void income() {
        MeanTown x = Due.townOf("g10,p0,p0,f70,p3;01=1,12=2,23=1");
        incomeIs(x, 0, 90, 1);
        incomeIs(x, 1, 0, 1);
        x.purse(46);
        incomeIs(x, 0, 90, 1);
        x.purse(45);
        incomeIs(x, 0, 44, 1);
        x.purse(99);
        x.set(1, 0, 1);
        x.set(3, 0, 3);
        incomeIs(x, 0, 56, 1);
        incomeIs(x, 1, 34, 1);
        incomeIs(x, 3, 70, 1);
        x.ask(0, 9);
        incomeIs(x, 0, 273, 5);
        incomeIs(x, 1, 167, 5);
        x.purse(45);
        incomeIs(x, 0, 9, 1);
        for (int far : FAR) {
            due.is("income of " + far, x.income(far, 0), BAD);
            due.is("income part " + far, x.income(0, far), BAD);
        }
        due.is("income of 4", x.income(4, 0), BAD);
        due.is("income part 2", x.income(0, 2), BAD);
    }

    private static void best() {
        MeanTown x = Due.townOf("g10,p0,p0,f70,p3;01=1,12=2,23=1");
        due.is("best 50", x.best(0), 20);
        due.is("nothing is changed", x.told(0, 1), 10);
        x.set(1, 0, 1);
        x.set(2, 0, 2);
        due.is("best alone", x.best(0), 50);
        x.purse(0);
        due.is("the least of like ones", x.best(0), 0);
        x.purse(99);
        due.is("best 99", x.best(0), 99);
        due.is("best of a frozen one", x.best(3), NOT);
        due.is("best of a plain one", x.best(1), NOT);
        due.is("best of none", x.best(5), BAD);
        for (int far : FAR) {
            due.is("best " + far, x.best(far), BAD);
        }
    }

    private static void rests() {
        MeanTown x = Due.townOf("g1,g2,f3,p4");
        due.is("owners alike", x.rests(0, 1, 0), NOT);
        x.set(1, 0, 2);
        x.set(2, 0, 1);
        x.set(3, 0, 1);
        due.is("one", x.rests(0, 1, 0), 1);
        due.is("the one", x.rests(0, 1, 1), 4444);
        x.purse(0);
        due.is("all", x.rests(0, 1, 0), 100);
        due.is("the first of all", x.rests(0, 1, 1), 0);
        x.purse(99);
        due.is("the most", x.rests(1, 0, 1), 9999);
        due.is("nothing is changed", x.told(0, 1) * 10 + x.told(1, 1), 12);
        due.is("alike", x.rests(0, 0, 0), BAD);
        due.is("what 2", x.rests(0, 1, 2), BAD);
        due.is("BAD ahead of NOT", x.rests(0, 2, 2), BAD);
        due.is("frozen first", x.rests(2, 0, 0), NOT);
        due.is("frozen second", x.rests(0, 2, 0), NOT);
        due.is("plain", x.rests(0, 3, 0), NOT);
        due.is("no such", x.rests(0, 4, 0), BAD);
        for (int far : FAR) {
            due.is("rests a " + far, x.rests(far, 1, 0), BAD);
            due.is("rests b " + far, x.rests(0, far, 0), BAD);
            due.is("rests what " + far, x.rests(0, 1, far), BAD);
        }
    }

    private static MeanTown owned(String text, int purse, int... owners) {
        MeanTown x = Due.townOf(text);
        x.purse(purse);
        for (int h = 0; h < owners.length; h++) {
            x.set(h, 0, owners[h]);
        }
        return x;
    }

    private static void manyRests() {
        MeanTown three = owned("g0,g0,p0,p0,p0;02=2,12=2,03=1,13=1,23=2,14=1,24=2", 21, 0, 1, 1, 0, 0);
        due.is("three", three.rests(0, 1, 0), 3);
        due.is("the first of three", three.rests(0, 1, 1), 33);
        due.is("the first, other way round", three.rests(1, 0, 1), 44);
        MeanTown two = owned("g0,g0,p0,p0,p0;01=1,02=1,12=1,03=2,04=1,14=1,34=2", 20, 0, 1, 1, 1, 1);
        due.is("two", two.rests(0, 1, 0), 2);
        due.is("the first of two", two.rests(0, 1, 1), 1111);
        MeanTown none = owned("g0,g0,p0,p0,p0;01=1,02=1,13=1,04=2,14=1,24=2,34=2", 21, 0, 1, 1, 0, 1);
        due.is("no rest: how many", none.rests(0, 1, 0), 0);
        due.is("no rest: the first", none.rests(0, 1, 1), NONE);
        MeanTown zero = owned("g9,g9,f10,p0;23=1,03=1", 5, 0, 1, 2, 0);
        due.is("asking 0 is best for the first alone", zero.rests(0, 1, 0), 10);
        due.is("the first asks 0", zero.rests(0, 1, 1), 0);
        due.is("as many the other way round", zero.rests(1, 0, 0), 10);
    }

    private static void bought() {
        MeanTown x = Due.townOf("g90,p0,p0,p0,p1;01=1,12=1,23=1");
        due.is("none needs to be bought", x.bought(3, 90, 0), 0);
        due.is("the least of like ones", x.bought(3, 50, 0), 2);
        due.is("two", x.bought(2, 0, 0), 2);
        due.is("not dear ones", x.bought(3, 89, 90), NONE);
        due.is("half a penny too much", x.bought(1, 44, 0), NONE);
        due.is("just so much", x.bought(1, 45, 0), 4);
        due.is("not reached, all bought in vain", x.bought(4, 99, 0), NONE);
        due.is("kinds stay", x.told(1, 0), 0);
        due.is("askings stay", x.told(1, 1), 0);
        due.is("fixed", x.bought(0, 99, 0), NOT);
        due.is("BAD ahead of NOT", x.bought(0, 100, 0), BAD);
        due.is("no such", x.bought(5, 99, 0), BAD);
        for (int far : FAR) {
            due.is("bought house " + far, x.bought(far, 99, 0), BAD);
            due.is("bought limit " + far, x.bought(1, far, 0), BAD);
            due.is("bought v " + far, x.bought(1, 99, far), BAD);
        }
        MeanTown fewest = Due.townOf("p0,p0,p0,p0,g90;32=1,20=1,21=1,04=1,14=1");
        due.is("one of more, not two of less", fewest.bought(3, 20, 0), 4);
        due.is("one is enough", fewest.bought(3, 30, 0), 1);
        MeanTown fraction = Due.townOf("g10,p0,g11;01=1,12=1");
        due.is("10 1/2 is more than 10", fraction.bought(1, 10, 0), NONE);
        due.is("10 1/2 is no more than 11", fraction.bought(1, 11, 0), 0);
    }

    private static void boughtNearUnreached() {
        MeanTown x = Due.townOf("p0,p0,c0;01=1,02=1");
        due.is("one is enough", x.bought(0, 10, 5), 2);
        due.is("capped ones may be bought", x.bought(1, 10, 5), 1);
        due.is("too dear", x.bought(0, 4, 5), NONE);
        due.is("alone", Due.townOf("p0").bought(0, 99, 0), NONE);
    }

    private static void image() {
        MeanTown x = Due.townOf("g10,p1,c2,f3;01=1,12=2");
        x.set(1, 0, 2);
        x.set(2, 1, 44);
        x.purse(33);
        x.year();
        x.sheet(0, 1, 4);
        Due.write(x, "f7");
        due.is("image", x.image(), 1);
        x.house(3, 77);
        x.share(0, 1, 2);
        x.share(3, 0, 1);
        x.ask(0, 55);
        x.set(1, 0, 1);
        x.set(2, 1, 1);
        x.purse(1);
        x.year();
        x.drop(0);
        x.sheet(1, 0, 1);
        Due.write(x, "9");
        due.is("restore", x.restore(), 1);
        int[] counts = {4, 2, 4, 2, 1};
        for (int what = 0; what <= 4; what++) {
            due.is("restored count " + what, x.count(what), counts[what]);
        }
        int[][] want = {{1, 10, 0, 99, 1, 1}, {0, 4, 2, 99, 3, 1}, {2, 1, 0, 44, 2, 1}, {3, 3, 0, 99, 0, 1}};
        for (int h = 0; h < 4; h++) {
            for (int what = 0; what <= 5; what++) {
                due.is("restored " + h + " told " + what, x.told(h, what), want[h][what]);
            }
        }
        due.is("restored purse", x.purse(2), 33);
        due.is("a sheet stays away", x.drop(0), MeanTown.NULL);
        due.is("a sheet stays there", x.drop(1), 1);
        due.is("the tape stays", x.type(' ', 1), 4);
        due.is("the tape is read", x.town(), 1);
        due.is("as typed", x.told(0, 1), 79);
        due.is("a second image", x.image(), 1);
        x.purse(9);
        due.is("restore the second", x.restore(), 1);
        due.is("the second's houses", x.count(0), 1);
        due.is("the second's purse", x.purse(9), 2);
        due.is("an image stays", x.restore(), 1);
        due.is("an image stays as it is", x.purse(9), 2);
    }

    private static void imageOfNothing() {
        MeanTown x = new MeanTown();
        due.is("no image", x.restore(), NONE);
        due.is("image of nothing", x.image(), 1);
        x.house(1, 1);
        x.house(0, 1);
        x.share(0, 1, 2);
        due.is("restore nothing", x.restore(), 1);
        due.is("no house", x.count(0), 0);
        x.house(1, 1);
        x.house(0, 1);
        due.is("no share from before", x.count(3), 0);
    }
}
