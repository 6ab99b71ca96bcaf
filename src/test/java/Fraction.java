/** A fraction in lowest terms that throws where a long is too short for it. */
final class Fraction {
    static final Fraction ZERO = of(0);
    final long above;
    final long below;

    Fraction(long above, long below) {
        long divisor = below < 0 ? -divisor(above, below) : divisor(above, below);
        this.above = above / divisor;
        this.below = below / divisor;
    }

    private static long divisor(long a, long b) {
        return b == 0 ? Math.abs(a) : divisor(b, a % b);
    }

    static Fraction of(long whole) {
        return new Fraction(whole, 1);
    }

    Fraction plus(Fraction o) {
        return new Fraction(Math.addExact(Math.multiplyExact(above, o.below), Math.multiplyExact(o.above, below)),
                Math.multiplyExact(below, o.below));
    }

    Fraction times(Fraction o) {
        return new Fraction(Math.multiplyExact(above, o.above), Math.multiplyExact(below, o.below));
    }

    Fraction minus(Fraction o) {
        return plus(o.times(of(-1)));
    }

    Fraction by(Fraction o) {
        return times(new Fraction(o.below, o.above));
    }

    int compareTo(Fraction o) {
        return Long.signum(minus(o).above);
    }

    long part(int part) {
        return part == 0 ? above : below;
    }
}
