import java.util.function.Consumer;
import java.util.function.Supplier;

/** Counts and prints the answers that are not the ones due. */
final class Due {
    private final String test;
    private int checked;
    private int wrong;

    Due(String test) {
        this.test = test;
    }

    void is(String call, long got, long want) {
        checked++;
        if (got != want) {
            wrong++;
            System.out.println(test + ": " + call + " answered " + got + ", due is " + want);
        }
    }

    void holds(String what, boolean isSo) {
        is(what, isSo ? 1 : 0, 1);
    }

    /** Above and below of a fraction, as the two parts of a call answered them. */
    void isFraction(String call, long above, long below, long wantAbove, long wantBelow) {
        is(call + ", above", above, wantAbove);
        is(call + ", below", below, wantBelow);
    }

    /** Two objects that are made alike still look alike when one of them has had these calls. */
    void changesNothing(Supplier<MeanTown> made, Consumer<MeanTown> calls) {
        MeanTown x = made.get();
        calls.accept(x);
        String got = Look.at(x);
        String want = Look.at(made.get());
        checked++;
        if (!got.equals(want)) {
            wrong++;
            System.out.println(test + ": there is\n" + got + "due is\n" + want);
        }
    }

    int checked() {
        return checked;
    }

    int wrong() {
        return wrong;
    }

    /** Ends the test: with exit code 1 if an answer was wrong. */
    void end() {
        System.out.println(test + ": " + checked + " answers, " + wrong + " wrong");
        if (wrong != 0) {
            System.exit(1);
        }
    }

    /** Types a text of any length, eight bytes at once. */
    static void write(MeanTown x, String text) {
        for (int from = 0; from < text.length(); from += 8) {
            String piece = text.substring(from, Math.min(text.length(), from + 8));
            x.type(packed(piece), piece.length());
        }
    }

    static long packed(String piece) {
        long w = 0;
        for (int k = 0; k < piece.length(); k++) {
            w = w << 8 | piece.charAt(k) & 255;
        }
        return w;
    }

    /** A new object with the town that a text tells. */
    static MeanTown townOf(String text) {
        MeanTown x = new MeanTown();
        write(x, text);
        if (x.town() < 1) {
            throw new IllegalArgumentException(text);
        }
        return x;
    }

    /** An object that has something of everything, nothing of it as it is at first. */
    static MeanTown rich() {
        MeanTown x = townOf("g10,p1,c2,f70,p5,p6,p7;01=1,12=2,23=1,45=2");
        x.set(3, 0, 1);
        x.set(3, 1, 77);
        x.image();
        x.ask(0, 20);
        x.set(1, 0, 2);
        x.set(2, 1, 30);
        x.purse(33);
        x.year();
        x.share(0, 2, 1);
        for (int lane = 0; lane <= 2; lane++) {
            x.sheet(lane, lane, 14 - lane);
            x.film(lane, lane, lane);
            x.item(lane, lane, 13 - lane, 98);
        }
        write(x, "f7");
        return x;
    }
}
