/** Counts and prints the answers that are not the ones due. */
final class Due {
    private final String test;
    private int checked;
    private int wrong;

    Due(String test) {
        this.test = test;
    }

    void is(String call, long got, long want) {
        checked++;
        if (got != want) {
            wrong++;
            System.out.println(test + ": " + call + " answered " + got + ", due is " + want);
        }
    }

    void holds(String what, boolean isSo) {
        is(what, isSo ? 1 : 0, 1);
    }

    int wrong() {
        return wrong;
    }

    /** Ends the test: with exit code 1 if an answer was wrong. */
    void end() {
        System.out.println(test + ": " + checked + " answers, " + wrong + " wrong");
        if (wrong != 0) {
            System.exit(1);
        }
    }

    /** Types a text of any length, eight bytes at once. */
    static void write(MeanTown x, String text) {
        for (int from = 0; from < text.length(); from += 8) {
            String piece = text.substring(from, Math.min(text.length(), from + 8));
            x.type(packed(piece), piece.length());
        }
    }

    static long packed(String piece) {
        long w = 0;
        for (int k = 0; k < piece.length(); k++) {
            w = w << 8 | piece.charAt(k) & 255;
        }
        return w;
    }

    /** A new object with the town that a text tells. */
    static MeanTown townOf(String text) {
        MeanTown x = new MeanTown();
        write(x, text);
        if (x.town() < 1) {
            throw new IllegalArgumentException(text);
        }
        return x;
    }
}
