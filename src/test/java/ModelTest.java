import java.util.Random;

/** Long runs of calls by lot, the same on MeanTown and on the model, from seeds that stay. */
public final class ModelTest {
    private static final Due due = new Due("ModelTest");
    private static final int RUNS = 400;
    private static final int CALLS = 512;
    private static final String[] NAMES = {
        "house", "share", "ask", "set", "purse", "told", "type", "town", "count", "rent", "moves", "walk", "change",
        "pulled", "year", "near", "income", "best", "rests", "bought", "image", "restore", "book", "film", "sheet",
        "drop", "item", "copy"};
    private static final int[] FAR = {-1, -2, 8, 21, 100, Integer.MIN_VALUE, Integer.MAX_VALUE, 1 << 30, -20};

    private final Random lot;
    private final MeanTown x = new MeanTown();
    private final Model m = new Model();
    private final int[] answered;
    private int calls;
    private long lastSheet, lastLane;

    private ModelTest(long seed, int[] answered) {
        lot = new Random(seed);
        this.answered = answered;
    }

    public static void main(String[] args) {
        int[] answered = new int[NAMES.length];
        for (int run = 0; run < RUNS && due.wrong() < 20; run++) {
            ModelTest test = new ModelTest(run, answered);
            test.begin();
            while (test.calls < CALLS) {
                test.step(run);
            }
        }
        for (int f = 0; f < NAMES.length; f++) {
            due.holds(NAMES[f] + " was granted now and then", answered[f] > 20);
        }
        due.end();
    }

    private int upTo(int most) {
        return lot.nextInt(60) == 0 ? FAR[lot.nextInt(FAR.length)] : lot.nextInt(most + 1);
    }

    private int houseNumber() {
        long houses = m.count(0);
        return upTo(houses > 0 && lot.nextInt(20) > 0 ? (int) houses - 1 : 7);
    }

    private int pence() {
        int choice = lot.nextInt(6);
        return choice == 0 ? 0 : choice == 1 ? 99 : upTo(99);
    }

    private void check(String call, long got, long want, int f) {
        calls++;
        due.is(call, got, want);
        if (got >= 0 || f == 12 || f == 13) {
            answered[f]++;
        }
    }

    private void begin() {
        int houses = lot.nextInt(9);
        for (int h = 0; h < houses; h++) {
            int kind = lot.nextInt(5) % 4;
            int asks = lot.nextInt(100);
            check("house", x.house(kind, asks), m.house(kind, asks), 0);
        }
        for (int a = 0; a < houses; a++) {
            for (int b = 0; b < a; b++) {
                int v = lot.nextInt(4);
                if (v > 0 && lot.nextInt(3) > 0) {
                    check("share", x.share(a, b, v), m.share(a, b, v), 1);
                }
            }
        }
    }

    private void step(int run) {
        int f = lot.nextInt(NAMES.length);
        if (f == 7) {
            text(run);
            return;
        }
        int[] a = arguments(f);
        long w = f == 6 ? letters() : f == 26 ? longItem() : 0;
        StringBuilder call = new StringBuilder("run " + run + " call " + calls + " " + NAMES[f] + " " + w);
        for (int v : a) {
            call.append(' ').append(v);
        }
        check(call.toString(), onTown(f, a, w), onModel(f, a, w), f);
    }

    private long letters() {
        long w = 0;
        for (int k = 0; k < 8; k++) {
            w = w << 8 | (lot.nextInt(80) == 0 ? lot.nextInt(256) : "pgcf0123456789,;= ".charAt(lot.nextInt(18)));
        }
        return w;
    }

    private long longItem() {
        return lot.nextInt(8) == 0 ? lot.nextLong() : lot.nextInt(100);
    }

    private int[] arguments(int f) {
        int h = houseNumber();
        int o = houseNumber();
        int part = upTo(1);
        switch (f) {
            case 0:
                return new int[] {upTo(3), pence()};
            case 1:
                return new int[] {h, o, upTo(2)};
            case 2:
                return new int[] {h, pence()};
            case 3:
                return new int[] {h, part, lot.nextBoolean() ? upTo(3) : pence()};
            case 4: case 15:
                return new int[] {pence()};
            case 5:
                return new int[] {h, upTo(5)};
            case 6:
                return new int[] {lot.nextInt(12) == 0 ? upTo(10) : 1 + lot.nextInt(3)};
            case 8:
                return new int[] {upTo(4)};
            case 9: case 11:
                return new int[] {h, part};
            case 10: case 13: case 18:
                return new int[] {h, o, part};
            case 12:
                return new int[] {h, o, upTo(2), houseNumber(), part};
            case 16:
                return new int[] {upTo(3), part};
            case 17:
                return new int[] {h};
            case 19:
                return new int[] {h, pence(), pence()};
            case 14: case 20: case 21:
                return new int[0];
            default:
                return sheetArguments(f);
        }
    }

    private int[] sheetArguments(int f) {
        boolean isAgain = lot.nextInt(3) > 0;
        int sheet = isAgain ? (int) lastSheet : upTo(3);
        int lane = isAgain ? (int) lastLane : upTo(2);
        switch (f) {
            case 24:
                lastSheet = lot.nextInt(4);
                lastLane = lot.nextInt(3);
                return new int[] {(int) lastSheet, (int) lastLane, lot.nextInt(3) > 0 ? 20 : upTo(22)};
            case 25:
                return new int[] {upTo(3)};
            case 27:
                return new int[] {sheet, upTo(8), upTo(3), upTo(8), upTo(12)};
            default:
                return new int[] {sheet, lane, lot.nextInt(4) > 0 ? lot.nextInt(4) : upTo(20)};
        }
    }

    private long onTown(int f, int[] a, long w) {
        switch (f) {
            case 0: return x.house(a[0], a[1]);
            case 1: return x.share(a[0], a[1], a[2]);
            case 2: return x.ask(a[0], a[1]);
            case 3: return x.set(a[0], a[1], a[2]);
            case 4: return x.purse(a[0]);
            case 5: return x.told(a[0], a[1]);
            case 6: return x.type(w, a[0]);
            case 8: return x.count(a[0]);
            case 9: return x.rent(a[0], a[1]);
            case 10: return x.moves(a[0], a[1], a[2]);
            case 11: return x.walk(a[0], a[1]);
            case 12: return x.change(a[0], a[1], a[2], a[3], a[4]);
            case 13: return x.pulled(a[0], a[1], a[2]);
            case 14: return x.year();
            case 15: return x.near(a[0]);
            case 16: return x.income(a[0], a[1]);
            case 17: return x.best(a[0]);
            case 18: return x.rests(a[0], a[1], a[2]);
            case 19: return x.bought(a[0], a[1], a[2]);
            case 20: return x.image();
            case 21: return x.restore();
            case 22: return x.book(a[0], a[1], a[2]);
            case 23: return x.film(a[0], a[1], a[2]);
            case 24: return x.sheet(a[0], a[1], a[2]);
            case 25: return x.drop(a[0]);
            case 26: return x.item(a[0], a[1], a[2], w);
            default: return x.copy(a[0], a[1], a[2], a[3], a[4]);
        }
    }

    private long onModel(int f, int[] a, long w) {
        switch (f) {
            case 0: return m.house(a[0], a[1]);
            case 1: return m.share(a[0], a[1], a[2]);
            case 2: return m.ask(a[0], a[1]);
            case 3: return m.set(a[0], a[1], a[2]);
            case 4: return m.purse(a[0]);
            case 5: return m.told(a[0], a[1]);
            case 6: return m.type(w, a[0]);
            case 8: return m.count(a[0]);
            case 9: return m.rent(a[0], a[1]);
            case 10: return m.moves(a[0], a[1], a[2]);
            case 11: return m.walk(a[0], a[1]);
            case 12: return m.change(a[0], a[1], a[2], a[3], a[4]);
            case 13: return m.pulled(a[0], a[1], a[2]);
            case 14: return m.year();
            case 15: return m.near(a[0]);
            case 16: return m.income(a[0], a[1]);
            case 17: return m.best(a[0]);
            case 18: return m.rests(a[0], a[1], a[2]);
            case 19: return m.bought(a[0], a[1], a[2]);
            case 20: return m.image();
            case 21: return m.restore();
            case 22: return m.book(a[0], a[1], a[2]);
            case 23: return m.film(a[0], a[1], a[2]);
            case 24: return m.sheet(a[0], a[1], a[2]);
            case 25: return m.drop(a[0]);
            case 26: return m.item(a[0], a[1], a[2], w);
            default: return m.copy(a[0], a[1], a[2], a[3], a[4]);
        }
    }

    /** A town, often with a fault, typed behind what the tape has and then read. */
    private void text(int run) {
        if (lot.nextInt(3) > 0) {
            check("town", x.town(), m.town(), 7);
        }
        StringBuilder text = new StringBuilder();
        int houses = 1 + lot.nextInt(lot.nextInt(6) == 0 ? 10 : 8);
        for (int h = 0; h < houses; h++) {
            text.append(h == 0 ? "" : ",").append("pgcf".charAt(lot.nextInt(4)));
            text.append(lot.nextInt(9) == 0 ? "0" : "").append(lot.nextInt(lot.nextInt(20) == 0 ? 120 : 100));
        }
        int shares = lot.nextInt(lot.nextInt(9) == 0 ? 15 : 9);
        for (int k = 0; k < shares; k++) {
            int a = lot.nextInt(houses);
            int b = lot.nextInt(4) == 0 ? lot.nextInt(houses) : (a + 1 + k) % houses;
            text.append(k == 0 ? ";" : ",").append(a).append(b).append('=');
            text.append(lot.nextInt(30) == 0 ? 3 : lot.nextInt(3));
        }
        for (int k = lot.nextInt(4); k > 1; k--) {
            text.insert(lot.nextInt(text.length() + 1), ' ');
        }
        if (lot.nextInt(5) == 0) {
            text.setCharAt(lot.nextInt(text.length()), "pgcf0123456789,;= ~".charAt(lot.nextInt(19)));
        }
        for (int from = 0; from < text.length(); from += 8) {
            String piece = text.substring(from, Math.min(text.length(), from + 8));
            long w = Due.packed(piece);
            check("type " + piece, x.type(w, piece.length()), m.type(w, piece.length()), 6);
        }
        check("run " + run + " call " + calls + " town " + text, x.town(), m.town(), 7);
    }
}
