import java.math.BigInteger;
import java.util.ArrayList;
import java.util.HashSet;
import java.util.List;
import java.util.Set;

/** The document once more, as plainly as can be and by other ways than MeanTown's. */
final class Model {
    private static final long BAD = -1, NOT = -2, FULL = -3, NONE = -4, NULL = -11, CAST = -12, INDEX = -13, SIZE = -14;
    private static final long LESS = 1000000000000000000L;

    private static final class House {
        int kind, asks, owner, cap = 99;

        House(int kind, int asks) {
            this.kind = kind;
            this.asks = asks;
        }

        House(House h) {
            this(h.kind, h.asks);
            owner = h.owner;
            cap = h.cap;
        }

        boolean fixed() {
            return kind == 1 || kind == 3;
        }
    }

    private static final class State {
        final List<House> houses = new ArrayList<>();
        final int[][] shares = new int[8][8];
        int purse = 50, years;

        State() {
        }

        State(State s) {
            for (House h : s.houses) {
                houses.add(new House(h));
            }
            for (int a = 0; a < 8; a++) {
                shares[a] = s.shares[a].clone();
            }
            purse = s.purse;
            years = s.years;
        }

        int size() {
            return houses.size();
        }

        int weight(int h) {
            int w = 0;
            for (int v : shares[h]) {
                w += v;
            }
            return w;
        }

        boolean reached(int h) {
            return reached(h, new HashSet<>());
        }

        private boolean reached(int h, Set<Integer> seen) {
            if (houses.get(h).fixed()) {
                return true;
            }
            seen.add(h);
            for (int o = 0; o < size(); o++) {
                if (shares[h][o] > 0 && !seen.contains(o) && reached(o, seen)) {
                    return true;
                }
            }
            return false;
        }

        /** Rents, or, where steps are asked for, the lengths of walks; null where there are none. */
        Fraction[] solve(boolean steps) {
            Fraction[] known = new Fraction[size()];
            List<Fraction[]> rows = new ArrayList<>();
            List<Integer> open = new ArrayList<>();
            for (int h = 0; h < size(); h++) {
                if (houses.get(h).fixed()) {
                    known[h] = Fraction.of(steps ? 0 : houses.get(h).asks);
                } else if (reached(h)) {
                    open.add(h);
                }
            }
            for (int h : open) {
                Fraction[] row = new Fraction[open.size() + 1];
                for (int k = 0; k < open.size(); k++) {
                    row[k] = new Fraction(-shares[h][open.get(k)], weight(h)).plus(Fraction.of(open.get(k) == h ? 1 : 0));
                }
                row[open.size()] = Fraction.of(steps ? 1 : 0);
                for (int o = 0; o < size(); o++) {
                    if (houses.get(o).fixed()) {
                        row[open.size()] = row[open.size()].plus(known[o].times(new Fraction(shares[h][o], weight(h))));
                    }
                }
                rows.add(row);
            }
            backwards(rows);
            for (int k = 0; k < open.size(); k++) {
                known[open.get(k)] = rows.get(k)[open.size()];
            }
            return known;
        }

        private static void backwards(List<Fraction[]> rows) {
            int n = rows.size();
            for (int k = n - 1; k >= 0; k--) {
                Fraction[] row = rows.get(k);
                Fraction own = row[k];
                for (int c = 0; c <= n; c++) {
                    row[c] = row[c].by(own);
                }
                for (int r = 0; r < n; r++) {
                    if (r != k) {
                        Fraction[] other = rows.get(r);
                        Fraction times = other[k];
                        for (int c = 0; c <= n; c++) {
                            other[c] = other[c].minus(times.times(row[c]));
                        }
                    }
                }
            }
        }

        Fraction rent(int h) {
            return solve(false)[h];
        }

        State nextYear() {
            State next = new State(this);
            for (int h = 0; h < size(); h++) {
                House house = next.houses.get(h);
                if (!house.fixed() && weight(h) > 0) {
                    int sum = 0;
                    for (int o = 0; o < size(); o++) {
                        sum += shares[h][o] * houses.get(o).asks;
                    }
                    house.asks = sum / weight(h);
                    if (house.kind == 2 && house.asks > house.cap) {
                        house.asks = house.cap;
                    }
                }
            }
            return next;
        }

        Fraction income(int owner) {
            Fraction[] rents = solve(false);
            Fraction sum = Fraction.ZERO;
            for (int h = 0; h < size(); h++) {
                if (houses.get(h).owner == owner && rents[h] != null && rents[h].compareTo(Fraction.of(purse)) <= 0) {
                    sum = sum.plus(rents[h]);
                }
            }
            return sum;
        }
    }

    private State s = new State();
    private State kept;
    private String tape = "";
    private final Object[] sheets = new Object[4];

    private boolean no(int h) {
        return h < 0 || h >= s.size();
    }

    private static boolean out(long v, int most) {
        return v < 0 || v > most;
    }

    long house(int kind, int asks) {
        if (out(kind, 3) || out(asks, 99)) {
            return BAD;
        }
        if (s.size() == 8) {
            return FULL;
        }
        s.houses.add(new House(kind, asks));
        return s.size() - 1;
    }

    long share(int a, int b, int v) {
        if (no(a) || no(b) || a == b || out(v, 2)) {
            return BAD;
        }
        int was = s.shares[a][b];
        s.shares[a][b] = s.shares[b][a] = v;
        return was;
    }

    long ask(int house, int v) {
        if (no(house) || out(v, 99)) {
            return BAD;
        }
        House h = s.houses.get(house);
        if (h.kind == 3) {
            return NOT;
        }
        int was = h.asks;
        h.asks = v;
        return was;
    }

    long set(int house, int what, int v) {
        if (no(house) || out(what, 1) || out(v, what == 0 ? 3 : 99)) {
            return BAD;
        }
        House h = s.houses.get(house);
        int was = what == 0 ? h.owner : h.cap;
        if (what == 0) {
            h.owner = v;
        } else {
            h.cap = v;
        }
        return was;
    }

    long purse(int v) {
        if (out(v, 99)) {
            return BAD;
        }
        int was = s.purse;
        s.purse = v;
        return was;
    }

    long told(int house, int what) {
        if (no(house) || out(what, 5)) {
            return BAD;
        }
        House h = s.houses.get(house);
        return new int[] {h.kind, h.asks, h.owner, h.cap, s.weight(house), s.reached(house) ? 1 : 0}[what];
    }

    long type(long w, int n) {
        if (n < 1 || n > 8) {
            return BAD;
        }
        String more = "";
        for (int k = 0; k < n; k++) {
            int sign = (int) (w & 255);
            w >>= 8;
            if (sign < 32 || sign > 126) {
                return BAD;
            }
            more = (char) sign + more;
        }
        if (tape.length() + n > 100) {
            return FULL;
        }
        tape += more;
        return tape.length();
    }

    /** Walks the text sign by sign; state tells what is to come. */
    long town() {
        String text = tape;
        tape = "";
        State t = new State();
        Set<String> pairs = new HashSet<>();
        String state = "kind";
        int a = 0, b = 0, kind = 0, first = 0, told = 0;
        String number = "";
        for (int at = 0; at <= text.length(); at++) {
            char c = at == text.length() ? '$' : text.charAt(at);
            long fault = -20 - at;
            if (state.equals("number") && !number.isEmpty()) {
                if (Character.isDigit(c)) {
                    number += c;
                    continue;
                }
                if (new BigInteger(number).compareTo(BigInteger.valueOf(99)) > 0) {
                    return -20 - first;
                }
                t.houses.add(new House(kind, Integer.parseInt(number)));
                number = "";
                state = "behind house";
            }
            if (c == ' ') {
                continue;
            }
            if (at == text.length() && !(state.equals("behind house") || state.equals("behind share"))) {
                return fault;
            }
            switch (state) {
                case "kind":
                    kind = "pgcf".indexOf(c);
                    if (kind < 0) {
                        return fault;
                    }
                    state = "number";
                    break;
                case "number":
                    if (!Character.isDigit(c)) {
                        return fault;
                    }
                    first = at;
                    number += c;
                    break;
                case "behind house":
                    if (c == ',' && t.size() < 8) {
                        state = "kind";
                    } else if (c == ';') {
                        state = "first digit";
                    } else if (c != '$' || at < text.length()) {
                        return fault;
                    }
                    break;
                case "first digit":
                    a = c - '0';
                    if (a < 0 || a >= t.size()) {
                        return fault;
                    }
                    state = "second digit";
                    break;
                case "second digit":
                    b = c - '0';
                    if (b < 0 || b >= t.size() || a == b || !pairs.add(Math.min(a, b) + " " + Math.max(a, b))) {
                        return fault;
                    }
                    state = "is";
                    break;
                case "is":
                    if (c != '=') {
                        return fault;
                    }
                    state = "value";
                    break;
                case "value":
                    if (c < '0' || c > '2') {
                        return fault;
                    }
                    t.shares[a][b] = t.shares[b][a] = c - '0';
                    told++;
                    state = "behind share";
                    break;
                default:
                    if (c == ',' && told < 12) {
                        state = "first digit";
                    } else if (c != '$' || at < text.length()) {
                        return fault;
                    }
            }
        }
        t.purse = s.purse;
        t.years = s.years;
        s = t;
        return t.size();
    }

    long count(int what) {
        int fixed = 0, reached = 0, pairs = 0;
        for (int h = 0; h < s.size(); h++) {
            fixed += s.houses.get(h).fixed() ? 1 : 0;
            reached += s.reached(h) ? 1 : 0;
            for (int o = h + 1; o < s.size(); o++) {
                pairs += s.shares[h][o] > 0 ? 1 : 0;
            }
        }
        return out(what, 4) ? BAD : new int[] {s.size(), fixed, reached, pairs, s.years}[what];
    }

    long rent(int house, int part) {
        if (no(house) || out(part, 1)) {
            return BAD;
        }
        return s.reached(house) ? s.rent(house).part(part) : NONE;
    }

    long moves(int house, int fixed, int part) {
        if (no(house) || no(fixed) || out(part, 1)) {
            return BAD;
        }
        if (!s.houses.get(fixed).fixed()) {
            return NOT;
        }
        if (!s.reached(house)) {
            return NONE;
        }
        State more = new State(s);
        more.houses.get(fixed).asks++;
        return more.rent(house).minus(s.rent(house)).part(part);
    }

    long walk(int house, int part) {
        if (no(house) || out(part, 1)) {
            return BAD;
        }
        return s.reached(house) ? s.solve(true)[house].part(part) : NONE;
    }

    private long difference(State then, int house, int part) {
        if (!s.reached(house) || !then.reached(house)) {
            return NONE - LESS;
        }
        return then.rent(house).minus(s.rent(house)).part(part);
    }

    long change(int a, int b, int v, int house, int part) {
        if (no(a) || no(b) || a == b || out(v, 2) || no(house) || out(part, 1)) {
            return BAD - LESS;
        }
        State then = new State(s);
        then.shares[a][b] = then.shares[b][a] = v;
        return difference(then, house, part);
    }

    long pulled(int down, int house, int part) {
        if (no(down) || no(house) || down == house || out(part, 1)) {
            return BAD - LESS;
        }
        State then = new State(s);
        for (int o = 0; o < 8; o++) {
            then.shares[down][o] = then.shares[o][down] = 0;
        }
        return difference(then, house, part);
    }

    long year() {
        State next = s.nextYear();
        next.years++;
        long others = 0;
        for (int h = 0; h < s.size(); h++) {
            others += next.houses.get(h).asks != s.houses.get(h).asks ? 1 : 0;
        }
        s = next;
        return others;
    }

    long near(int pence) {
        if (out(pence, 99)) {
            return BAD;
        }
        Fraction[] rents = s.solve(false);
        State then = s;
        for (int y = 0; y <= 60; y++) {
            boolean all = true;
            for (int h = 0; h < s.size(); h++) {
                if (rents[h] != null) {
                    Fraction far = rents[h].minus(Fraction.of(then.houses.get(h).asks));
                    all &= new Fraction(Math.abs(far.above), far.below).compareTo(Fraction.of(pence)) <= 0;
                }
            }
            if (all) {
                return y;
            }
            then = then.nextYear();
        }
        return NONE;
    }

    long income(int owner, int part) {
        return out(owner, 3) || out(part, 1) ? BAD : s.income(owner).part(part);
    }

    long best(int gate) {
        if (no(gate)) {
            return BAD;
        }
        if (s.houses.get(gate).kind != 1) {
            return NOT;
        }
        State then = new State(s);
        int best = 99;
        Fraction most = Fraction.of(-1);
        for (int v = 99; v >= 0; v--) {
            then.houses.get(gate).asks = v;
            Fraction income = then.income(s.houses.get(gate).owner);
            if (income.compareTo(most) >= 0) {
                most = income;
                best = v;
            }
        }
        return best;
    }

    long rests(int a, int b, int what) {
        if (no(a) || no(b) || a == b || out(what, 1)) {
            return BAD;
        }
        House first = s.houses.get(a);
        House second = s.houses.get(b);
        if (first.kind != 1 || second.kind != 1 || first.owner == second.owner) {
            return NOT;
        }
        Fraction[][] mine = new Fraction[10][10];
        Fraction[][] theirs = new Fraction[10][10];
        State then = new State(s);
        for (int i = 0; i < 10; i++) {
            for (int j = 0; j < 10; j++) {
                then.houses.get(a).asks = 11 * i;
                then.houses.get(b).asks = 11 * j;
                mine[i][j] = then.income(first.owner);
                theirs[i][j] = then.income(second.owner);
            }
        }
        List<Integer> found = new ArrayList<>();
        for (int i = 0; i < 10; i++) {
            for (int j = 0; j < 10; j++) {
                boolean rests = true;
                for (int k = 0; k < 10; k++) {
                    rests &= mine[k][j].compareTo(mine[i][j]) <= 0 && theirs[i][k].compareTo(theirs[i][j]) <= 0;
                }
                if (rests) {
                    found.add(1100 * i + 11 * j);
                }
            }
        }
        return what == 0 ? found.size() : found.isEmpty() ? NONE : found.get(0);
    }

    long bought(int house, int limit, int v) {
        if (no(house) || out(limit, 99) || out(v, 99)) {
            return BAD;
        }
        if (s.houses.get(house).fixed()) {
            return NOT;
        }
        for (int many = 0; many < 8; many++) {
            for (int set = 0; set < 256; set++) {
                if (Integer.bitCount(set) == many && buys(set, house, limit, v)) {
                    return set;
                }
            }
        }
        return NONE;
    }

    private boolean buys(int set, int house, int limit, int v) {
        State then = new State(s);
        for (int h = 0; h < 8; h++) {
            if ((set & 1 << h) != 0) {
                if (h >= s.size() || h == house || s.houses.get(h).fixed()) {
                    return false;
                }
                then.houses.get(h).kind = 3;
                then.houses.get(h).asks = v;
            }
        }
        return then.reached(house) && then.rent(house).compareTo(Fraction.of(limit)) <= 0;
    }

    long image() {
        kept = new State(s);
        return 1;
    }

    long restore() {
        if (kept == null) {
            return NONE;
        }
        s = new State(kept);
        return 1;
    }

    private static int length(Object row) {
        return java.lang.reflect.Array.getLength(row);
    }

    private static int lane(Object row) {
        return row instanceof byte[] ? 0 : row instanceof short[] ? 1 : 2;
    }

    private long refusal(int sheet, int lane, long i, int n) {
        if (out(sheet, 3) || out(lane, 2)) {
            return BAD;
        }
        Object row = sheets[sheet];
        if (row == null) {
            return NULL;
        }
        if (lane(row) != lane) {
            return CAST;
        }
        return i < 0 || i + n > length(row) ? INDEX : 0;
    }

    long book(int sheet, int lane, int i) {
        int n = s.size();
        long refused = refusal(sheet, lane, i, 2 * n);
        if (refused != 0) {
            return refused;
        }
        long[] items = new long[2 * n];
        for (int k = 0; k < 2 * n; k++) {
            items[k] = java.lang.reflect.Array.getLong(sheets[sheet], i + k);
            if (out(items[k], 99)) {
                return NOT;
            }
        }
        State then = new State(s);
        for (int h = 0; h < n; h++) {
            then.houses.get(h).asks = (int) items[h];
        }
        then = then.nextYear();
        for (int h = 0; h < n; h++) {
            if (then.houses.get(h).asks != items[n + h]) {
                return h;
            }
        }
        return NONE;
    }

    private void put(Object row, int i, long v) {
        if (row instanceof byte[] bytes) {
            bytes[i] = (byte) v;
        } else if (row instanceof short[] shorts) {
            shorts[i] = (short) v;
        } else {
            ((long[]) row)[i] = v;
        }
    }

    long film(int sheet, int lane, int i) {
        long refused = refusal(sheet, lane, i, s.size());
        if (refused != 0) {
            return refused;
        }
        for (int h = 0; h < s.size(); h++) {
            put(sheets[sheet], i + h, s.houses.get(h).asks);
        }
        return s.size();
    }

    long sheet(int sheet, int lane, int n) {
        if (out(sheet, 3) || out(lane, 2) || n > 20) {
            return BAD;
        }
        if (n < 0) {
            return SIZE;
        }
        sheets[sheet] = lane == 0 ? new byte[n] : lane == 1 ? new short[n] : new long[n];
        return n;
    }

    long drop(int sheet) {
        if (out(sheet, 3)) {
            return BAD;
        }
        Object row = sheets[sheet];
        sheets[sheet] = null;
        return row == null ? NULL : length(row);
    }

    long item(int sheet, int lane, int i, long v) {
        long refused = refusal(sheet, lane, i, 1);
        if (refused != 0) {
            return refused;
        }
        put(sheets[sheet], i, v);
        return 1;
    }

    /** Lets the machine find what it finds, as the document says that it does. */
    long copy(int from, int i, int to, int j, int n) {
        if (out(from, 3) || out(to, 3)) {
            return BAD;
        }
        try {
            System.arraycopy(sheets[from], i, sheets[to], j, n);
            return n;
        } catch (NullPointerException e) {
            return NULL;
        } catch (ArrayStoreException e) {
            return CAST;
        } catch (IndexOutOfBoundsException e) {
            return INDEX;
        }
    }
}
