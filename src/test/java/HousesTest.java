/** Promises 1 to 10: houses, shares, the tape and towns as texts. */
public final class HousesTest {
    private static final Due due = new Due("HousesTest");
    private static final int BAD = -1, NOT = -2, FULL = -3;
    private static final int[] FAR = {-1, Integer.MIN_VALUE, Integer.MAX_VALUE};

    public static void main(String[] args) {
        newObject();
        house();
        share();
        ask();
        set();
        purse();
        told();
        reached();
        type();
        town();
        townFaults();
        townReplaces();
        count();
        due.end();
    }

    private static void newObject() {
        MeanTown x = new MeanTown();
        for (int what = 0; what <= 4; what++) {
            due.is("new: count " + what, x.count(what), 0);
        }
        due.is("new: told", x.told(0, 0), BAD);
        due.is("new: no image", x.restore(), MeanTown.NONE);
        due.is("new: tape", x.town(), -20);
        due.is("new: purse", x.purse(50), 50);
        for (int s = 0; s <= 3; s++) {
            due.is("new: sheet " + s, x.drop(s), MeanTown.NULL);
        }
    }

    private static void house() {
        MeanTown x = new MeanTown();
        for (int far : FAR) {
            due.is("house kind " + far, x.house(far, 0), BAD);
            due.is("house asks " + far, x.house(0, far), BAD);
        }
        due.is("house kind 4", x.house(4, 0), BAD);
        due.is("house asks 100", x.house(0, 100), BAD);
        for (int h = 0; h < 8; h++) {
            due.is("house " + h, x.house(h % 4, h == 7 ? 99 : h), h);
        }
        due.is("ninth house", x.house(0, 0), FULL);
        due.is("BAD comes ahead of FULL", x.house(0, 100), BAD);
        for (int h = 0; h < 8; h++) {
            due.is("kind of " + h, x.told(h, 0), h % 4);
            due.is("asks of " + h, x.told(h, 1), h == 7 ? 99 : h);
            due.is("owner of " + h, x.told(h, 2), 0);
            due.is("cap of " + h, x.told(h, 3), 99);
            due.is("weight of " + h, x.told(h, 4), 0);
            due.is("reached " + h, x.told(h, 5), h % 2);
        }
    }

    private static void share() {
        MeanTown x = Due.townOf("p0,p0,p0");
        due.is("share first", x.share(0, 1, 2), 0);
        due.is("share is of both", x.share(1, 0, 1), 2);
        due.is("share again", x.share(0, 1, 1), 1);
        due.is("weight 0", x.told(0, 4), 1);
        due.is("weight 1", x.told(1, 4), 1);
        due.is("share alike", x.share(1, 1, 1), BAD);
        due.is("share v 3", x.share(0, 1, 3), BAD);
        due.is("share no such a", x.share(3, 1, 1), BAD);
        due.is("share no such b", x.share(1, 3, 1), BAD);
        for (int far : FAR) {
            due.is("share a " + far, x.share(far, 1, 1), BAD);
            due.is("share b " + far, x.share(1, far, 1), BAD);
            due.is("share v " + far, x.share(0, 1, far), BAD);
        }
        due.is("refused ones change nothing", x.share(0, 1, 0), 1);
        due.is("away", x.count(3), 0);
    }

    private static void ask() {
        MeanTown x = Due.townOf("p1,g2,c3,f4");
        for (int h = 0; h < 3; h++) {
            due.is("ask " + h, x.ask(h, 99), h + 1);
            due.is("asks then " + h, x.told(h, 1), 99);
            due.is("ask back " + h, x.ask(h, 0), 99);
        }
        due.is("frozen", x.ask(3, 4), NOT);
        due.is("BAD ahead of NOT", x.ask(3, 100), BAD);
        due.is("frozen stays", x.told(3, 1), 4);
        due.is("no such house", x.ask(4, 0), BAD);
        for (int far : FAR) {
            due.is("ask house " + far, x.ask(far, 0), BAD);
            due.is("ask v " + far, x.ask(0, far), BAD);
        }
        x.set(2, 1, 5);
        due.is("a capped one may be told more", x.ask(2, 50), 0);
        due.is("and asks it", x.told(2, 1), 50);
    }

    private static void set() {
        MeanTown x = Due.townOf("p1,f2");
        for (int h = 0; h < 2; h++) {
            due.is("owner", x.set(h, 0, 3), 0);
            due.is("owner again", x.set(h, 0, 1), 3);
            due.is("owner told", x.told(h, 2), 1);
            due.is("cap", x.set(h, 1, 0), 99);
            due.is("cap again", x.set(h, 1, 99), 0);
            due.is("cap told", x.told(h, 3), 99);
        }
        due.is("owner 4", x.set(0, 0, 4), BAD);
        due.is("cap 100", x.set(0, 1, 100), BAD);
        due.is("what 2", x.set(0, 2, 0), BAD);
        due.is("no such house", x.set(2, 0, 0), BAD);
        for (int far : FAR) {
            due.is("set house " + far, x.set(far, 0, 0), BAD);
            due.is("set what " + far, x.set(0, far, 0), BAD);
            due.is("set owner " + far, x.set(0, 0, far), BAD);
            due.is("set cap " + far, x.set(0, 1, far), BAD);
        }
        due.is("owner stays", x.told(0, 2), 1);
    }

    private static void purse() {
        MeanTown x = new MeanTown();
        due.is("purse 0", x.purse(0), 50);
        due.is("purse 99", x.purse(99), 0);
        due.is("purse 100", x.purse(100), BAD);
        for (int far : FAR) {
            due.is("purse " + far, x.purse(far), BAD);
        }
        due.is("purse stays", x.purse(1), 99);
    }

    private static void told() {
        MeanTown x = Due.townOf("c7,g8;01=2");
        x.set(0, 0, 2);
        x.set(0, 1, 33);
        int[] want = {2, 7, 2, 33, 2, 1};
        for (int what = 0; what <= 5; what++) {
            due.is("told " + what, x.told(0, what), want[what]);
        }
        due.is("told 6", x.told(0, 6), BAD);
        due.is("told no such", x.told(2, 0), BAD);
        for (int far : FAR) {
            due.is("told house " + far, x.told(far, 0), BAD);
            due.is("told what " + far, x.told(0, far), BAD);
        }
    }

    private static void reached() {
        MeanTown x = Due.townOf("p0,p0,p0,p0,p0,p0,p0,f0;01=1,12=2,23=1,34=1,45=1,56=1,67=1");
        due.is("a long way", x.count(2), 8);
        x.share(3, 4, 0);
        for (int h = 0; h < 8; h++) {
            due.is("cut: reached " + h, x.told(h, 5), h > 3 ? 1 : 0);
        }
        due.is("cut: count", x.count(2), 4);
        x.share(0, 7, 2);
        due.is("round the other way", x.count(2), 8);
        due.is("nobody is fixed", Due.townOf("p0,c0;01=2").count(2), 0);
    }

    private static void type() {
        MeanTown x = new MeanTown();
        due.is("n 0", x.type(65, 0), BAD);
        due.is("n 9", x.type(65, 9), BAD);
        for (int far : FAR) {
            due.is("n " + far, x.type(65, far), BAD);
        }
        due.is("byte 31", x.type(31, 1), BAD);
        due.is("byte 127", x.type(127, 1), BAD);
        due.is("byte 128", x.type(128, 1), BAD);
        due.is("byte 255", x.type(255, 1), BAD);
        due.is("a bad byte above", x.type(31 << 8 | 65, 2), BAD);
        due.is("a bad byte below", x.type(65 << 8 | 31, 2), BAD);
        due.is("higher ones don't count", x.type(-1L << 8 | 'p', 1), 1);
        due.is("highest first", x.type(Due.packed("12"), 2), 3);
        due.is("p12", x.town(), 1);
        due.is("asks 12", x.told(0, 1), 12);
        for (int k = 1; k <= 12; k++) {
            due.is("eight more", x.type(Due.packed("        "), 8), 8 * k);
        }
        due.is("101", x.type(Due.packed("     "), 5), FULL);
        due.is("BAD ahead of FULL", x.type(31, 5), BAD);
        due.is("126 and 100", x.type(Due.packed("~   "), 4), 100);
        due.is("one more", x.type(' ', 1), FULL);
        due.is("the first byte that is no blank", x.town(), -20 - 96);
        due.is("empty then", x.town(), -20);
    }

    private static void answers(String text, int want) {
        MeanTown x = Due.townOf("f9,c9;01=1");
        Due.write(x, text);
        due.is("town '" + text + "'", x.town(), want);
        due.is("the tape is empty behind '" + text + "'", x.type('p', 1), 1);
        boolean isTown = want > 0;
        due.is("houses behind '" + text + "'", x.count(0), isTown ? want : 2);
        if (!isTown) {
            due.is("kind stays behind '" + text + "'", x.told(0, 0), 3);
            due.is("asking stays behind '" + text + "'", x.told(1, 1), 9);
            due.is("share stays behind '" + text + "'", x.share(0, 1, 0), 1);
        }
    }

    private static void town() {
        answers("p0", 1);
        answers("f99", 1);
        answers("   p   0   ", 1);
        answers("c05", 1);
        answers("g000000000000000000000000000000000000007", 1);
        answers("p1,g2,c3,f4", 4);
        answers("p1,g2;01=0", 2);
        answers(" p 1 , g 2 ; 0 1 = 2 ", 2);
        answers("p1,p2,p3,p4,p5,p6,p7,p8", 8);
        answers("p1,p2,p3,p4,p5,p6,p7,p8;01=1,02=1,03=1,04=1,05=1,06=1,07=1,12=1,13=1,14=1,15=1,76=2", 8);
    }

    private static void townFaults() {
        answers("", -20);
        answers("   ", -23);
        answers("x", -20);
        answers("P1", -20);
        answers("5", -20);
        answers(",p1", -20);
        answers(";", -20);
        answers("p", -21);
        answers("p  ", -23);
        answers("p,", -21);
        answers("p-1", -21);
        answers("p100", -21);
        answers("p 100", -22);
        answers("p99999999999999999999999999999999999999999", -21);
        answers("p4294967297", -21);
        answers("p18446744073709551617", -21);
        answers("p1 0", -23);
        answers("p1p", -22);
        answers("p1,", -23);
        answers("p1, ", -24);
        answers("p1,,", -23);
        answers("p1;", -23);
        answers("p1;;", -23);
        answers("p1,g2,100", -26);
        answers("p1,g2,p100", -27);
        answers("p1,p2,p3,p4,p5,p6,p7,p8,", -43);
        answers("p1,p2,p3,p4,p5,p6,p7,p8 ,p9", -44);
        answers("p1,g2;", -26);
        answers("p1,g2;0", -27);
        answers("p1,g2;01", -28);
        answers("p1,g2;01=", -29);
        answers("p1,g2;01=3", -29);
        answers("p1,g2;01=x", -29);
        answers("p1,g2;01=11", -30);
        answers("p1,g2;01=1 1", -31);
        answers("p1,g2;01=1;", -30);
        answers("p1,g2;01=1,", -31);
        answers("p1,g2;20=1", -26);
        answers("p1,g2;02=1", -27);
        answers("p1,g2;00=1", -27);
        answers("p1,g2;0=1", -27);
        answers("p1,g2;0,1=1", -27);
        answers("p1,g2;x1=1", -26);
        answers("p1,g2;01 2", -29);
        answers("p1,g2;01=1,01=1", -32);
        answers("p1,g2;01=1, 1 0=1", -34);
        answers("p1,g2;01=0,10=0", -32);
        answers("p1;00=1", -24);
        answers("p1,p2,p3,p4,p5,p6,p7,p8;01=1,02=1,03=1,04=1,05=1,06=1,07=1,12=1,13=1,14=1,15=1,16=1,17=1", -103);
    }

    private static void townReplaces() {
        MeanTown x = Due.townOf("p1,g2,p3,g4;01=2,23=2,13=1");
        x.set(0, 0, 3);
        x.set(0, 1, 10);
        x.purse(77);
        x.year();
        Due.write(x, "c5,f6,g7;12=1");
        due.is("in its place", x.town(), 3);
        int[][] want = {{2, 5, 0, 99, 0, 0}, {3, 6, 0, 99, 1, 1}, {1, 7, 0, 99, 1, 1}};
        for (int h = 0; h < 3; h++) {
            for (int what = 0; what <= 5; what++) {
                due.is("house " + h + " told " + what, x.told(h, what), want[h][what]);
            }
        }
        due.is("the next one is new", x.house(0, 0), 3);
        due.is("with no share", x.told(3, 4), 0);
        due.is("one pair", x.count(3), 1);
        due.is("years stay", x.count(4), 1);
        due.is("the purse stays", x.purse(1), 77);
    }

    private static void count() {
        MeanTown x = Due.townOf("p0,g0,c0,f0,p0,p0;01=1,12=2,45=1,02=0");
        int[] want = {6, 2, 4, 3, 0};
        for (int what = 0; what <= 4; what++) {
            due.is("count " + what, x.count(what), want[what]);
        }
        x.year();
        x.year();
        due.is("two years", x.count(4), 2);
        due.is("count 5", x.count(5), BAD);
        for (int far : FAR) {
            due.is("count " + far, x.count(far), BAD);
        }
    }
}
