/** A town of houses: gates ask what they like, all others the mean of those beside them. */
public final class MeanTown {
    public static final int BAD = -1, NOT = -2, FULL = -3, NONE = -4, NULL = -11, CAST = -12, INDEX = -13, SIZE = -14;

    /** Refused answers are so much less where a difference may itself be below 0. */
    private static final long SO_MUCH_LESS = 1000000000000000000L;

    private static final int MOST_HOUSES = 8;
    private static final int MOST_PENCE = 99;
    private static final int MOST_SHARE = 2;
    private static final int MOST_OWNER = 3;
    private static final int FIRST_PURSE = 50;
    private static final int MOST_YEARS = 9999;
    private static final int MOST_YEARS_AHEAD = 60;

    private static final int PLAIN = 0;
    private static final int GATE = 1;
    private static final int CAPPED = 2;
    private static final int FROZEN = 3;

    private static final int MOST_BYTES = 100;
    private static final int MOST_TYPED = 8;
    private static final int FIRST_SIGN = 32;
    private static final int LAST_SIGN = 126;
    private static final int MOST_TEXT_SHARES = 12;
    private static final int FIRST_FAULT = -20;
    private static final int END = -1;

    private static final int SHEETS = 4;
    private static final int MOST_ITEMS = 20;
    private static final int BYTES = 0;
    private static final int SHORTS = 1;
    private static final int LONGS = 2;

    /** Gates that weigh each other's askings try 0, 11, 22 .. 99. */
    private static final int TRIED = 10;
    private static final int TRIED_STEP = 11;

    private final Town now = new Town();
    private final Town kept = new Town();
    /** What is only asked about is tried here, so that nothing is changed by it. */
    private final Town trial = new Town();
    private final Rents rents = new Rents();
    private final Tape tape = new Tape();
    private final Sheet[] sheets = new Sheet[SHEETS];
    private final long[] firstIncomes = new long[TRIED * TRIED];
    private final long[] secondIncomes = new long[TRIED * TRIED];
    private boolean isKept;

    public MeanTown() {
        for (int s = 0; s < SHEETS; s++) {
            sheets[s] = new Sheet();
        }
    }

    // ---- 1 houses, shares

    public int house(int kind, int asks) {
        if (kind < PLAIN || kind > FROZEN || !isPence(asks)) {
            return BAD;
        }
        if (now.size >= MOST_HOUSES) {
            return FULL;
        }
        return now.build(kind, asks);
    }

    public int share(int a, int b, int v) {
        if (!now.hasTwo(a, b) || !isShare(v)) {
            return BAD;
        }
        int was = now.shareOf(a, b);
        now.putShare(a, b, v);
        return was;
    }

    public int ask(int house, int v) {
        if (!now.has(house) || !isPence(v)) {
            return BAD;
        }
        if (now.kinds[house] == FROZEN) {
            return NOT;
        }
        int was = now.asks[house];
        now.asks[house] = v;
        return was;
    }

    public int set(int house, int what, int v) {
        if (!now.has(house)) {
            return BAD;
        }
        if (what == 0 && isOwner(v)) {
            int was = now.owners[house];
            now.owners[house] = v;
            return was;
        }
        if (what == 1 && isPence(v)) {
            int was = now.caps[house];
            now.caps[house] = v;
            return was;
        }
        return BAD;
    }

    public int purse(int v) {
        if (!isPence(v)) {
            return BAD;
        }
        int was = now.purse;
        now.purse = v;
        return was;
    }

    public int told(int house, int what) {
        if (!now.has(house)) {
            return BAD;
        }
        switch (what) {
            case 0:
                return now.kinds[house];
            case 1:
                return now.asks[house];
            case 2:
                return now.owners[house];
            case 3:
                return now.caps[house];
            case 4:
                return now.weight(house);
            case 5:
                return isIn(now.reachedSet(), house) ? 1 : 0;
            default:
                return BAD;
        }
    }

    public int type(long w, int n) {
        if (n < 1 || n > MOST_TYPED || !areSigns(w, n)) {
            return BAD;
        }
        if (n > MOST_BYTES - tape.length) {
            return FULL;
        }
        tape.append(w, n);
        return tape.length;
    }

    public int town() {
        trial.takeFrom(now);
        trial.clear();
        int answer = tape.readTown(trial);
        tape.length = 0;
        if (answer > 0) {
            now.takeFrom(trial);
        }
        return answer;
    }

    public int count(int what) {
        switch (what) {
            case 0:
                return now.size;
            case 1:
                return Integer.bitCount(now.fixedSet());
            case 2:
                return Integer.bitCount(now.reachedSet());
            case 3:
                return now.pairs();
            case 4:
                return now.years;
            default:
                return BAD;
        }
    }

    // ---- 2 rents

    public long rent(int house, int part) {
        if (!now.has(house) || !isPart(part)) {
            return BAD;
        }
        rents.solve(now);
        if (!rents.reaches(house)) {
            return NONE;
        }
        return lowest(rents.above[house], rents.below, part);
    }

    public long moves(int house, int fixed, int part) {
        if (!now.has(house) || !now.has(fixed) || !isPart(part)) {
            return BAD;
        }
        if (!now.isFixed(fixed)) {
            return NOT;
        }
        rents.solve(now);
        if (!rents.reaches(house)) {
            return NONE;
        }
        return lowest(rents.movesAbove(house, fixed), rents.below, part);
    }

    public long walk(int house, int part) {
        if (!now.has(house) || !isPart(part)) {
            return BAD;
        }
        rents.solve(now);
        if (!rents.reaches(house)) {
            return NONE;
        }
        return lowest(rents.stepsAbove(house), rents.below, part);
    }

    public long change(int a, int b, int v, int house, int part) {
        if (!now.hasTwo(a, b) || !isShare(v) || !now.has(house) || !isPart(part)) {
            return BAD - SO_MUCH_LESS;
        }
        trial.takeFrom(now);
        trial.putShare(a, b, v);
        return trialLessNow(house, part);
    }

    public long pulled(int down, int house, int part) {
        if (!now.hasTwo(down, house) || !isPart(part)) {
            return BAD - SO_MUCH_LESS;
        }
        trial.takeFrom(now);
        trial.pullDown(down);
        return trialLessNow(house, part);
    }

    // ---- 3 years, owners

    public int year() {
        if (now.years >= MOST_YEARS) {
            return FULL;
        }
        now.years++;
        return now.passYear();
    }

    public int near(int pence) {
        if (!isPence(pence)) {
            return BAD;
        }
        rents.solve(now);
        trial.takeFrom(now);
        for (int years = 0; years <= MOST_YEARS_AHEAD; years++) {
            if (rents.areNear(trial, pence)) {
                return years;
            }
            trial.passYear();
        }
        return NONE;
    }

    public long income(int owner, int part) {
        if (!isOwner(owner) || !isPart(part)) {
            return BAD;
        }
        rents.solve(now);
        return lowest(rents.incomeAbove(now, owner), rents.below, part);
    }

    public int best(int gate) {
        if (!now.has(gate)) {
            return BAD;
        }
        if (now.kinds[gate] != GATE) {
            return NOT;
        }
        rents.solve(now);
        int bestAsking = 0;
        long most = -1;
        for (int asking = 0; asking <= MOST_PENCE; asking++) {
            rents.reprice(gate, asking);
            long income = rents.incomeAbove(now, now.owners[gate]);
            if (income > most) {
                most = income;
                bestAsking = asking;
            }
        }
        return bestAsking;
    }

    public int rests(int a, int b, int what) {
        if (!now.hasTwo(a, b) || what < 0 || what > 1) {
            return BAD;
        }
        if (now.kinds[a] != GATE || now.kinds[b] != GATE || now.owners[a] == now.owners[b]) {
            return NOT;
        }
        fillIncomes(a, b);
        int found = 0;
        int first = NONE;
        for (int pair = 0; pair < TRIED * TRIED; pair++) {
            if (isRest(pair)) {
                found++;
                if (first == NONE) {
                    first = 100 * TRIED_STEP * (pair / TRIED) + TRIED_STEP * (pair % TRIED);
                }
            }
        }
        return what == 0 ? found : first;
    }

    public int bought(int house, int limit, int v) {
        if (!now.has(house) || !isPence(limit) || !isPence(v)) {
            return BAD;
        }
        if (now.isFixed(house)) {
            return NOT;
        }
        int barred = now.fixedSet() | 1 << house;
        int fewest = NONE;
        trial.takeFrom(now);
        for (int set = 0; set < 1 << now.size; set++) {
            boolean isFewer = fewest == NONE || Integer.bitCount(set) < Integer.bitCount(fewest);
            if (isFewer && (set & barred) == 0 && isCheapWhenBought(set, v, house, limit)) {
                fewest = set;
            }
        }
        return fewest;
    }

    public int image() {
        kept.takeFrom(now);
        isKept = true;
        return 1;
    }

    public int restore() {
        if (!isKept) {
            return NONE;
        }
        now.takeFrom(kept);
        return 1;
    }

    // ---- 4 sheets

    public int book(int sheet, int lane, int i) {
        int refused = refusal(sheet, lane, i, 2 * now.size);
        if (refused != 0) {
            return refused;
        }
        Sheet pages = sheets[sheet];
        for (int k = 0; k < 2 * now.size; k++) {
            long asking = pages.items[i + k];
            if (asking < 0 || asking > MOST_PENCE) {
                return NOT;
            }
        }
        trial.takeFrom(now);
        for (int h = 0; h < now.size; h++) {
            trial.asks[h] = (int) pages.items[i + h];
        }
        trial.passYear();
        for (int h = 0; h < now.size; h++) {
            if (pages.items[i + now.size + h] != trial.asks[h]) {
                return h;
            }
        }
        return NONE;
    }

    public int film(int sheet, int lane, int i) {
        int refused = refusal(sheet, lane, i, now.size);
        if (refused != 0) {
            return refused;
        }
        for (int h = 0; h < now.size; h++) {
            sheets[sheet].items[i + h] = now.asks[h];
        }
        return now.size;
    }

    public int sheet(int sheet, int lane, int n) {
        if (!isSheet(sheet) || !isLane(lane) || n > MOST_ITEMS) {
            return BAD;
        }
        if (n < 0) {
            return SIZE;
        }
        sheets[sheet].renew(lane, n);
        return n;
    }

    public int drop(int sheet) {
        if (!isSheet(sheet)) {
            return BAD;
        }
        if (!sheets[sheet].isThere) {
            return NULL;
        }
        sheets[sheet].isThere = false;
        return sheets[sheet].length;
    }

    public int item(int sheet, int lane, int i, long v) {
        int refused = refusal(sheet, lane, i, 1);
        if (refused != 0) {
            return refused;
        }
        sheets[sheet].items[i] = lowestBits(lane, v);
        return 1;
    }

    public int copy(int from, int i, int to, int j, int n) {
        if (!isSheet(from) || !isSheet(to)) {
            return BAD;
        }
        Sheet source = sheets[from];
        Sheet target = sheets[to];
        if (!source.isThere || !target.isThere) {
            return NULL;
        }
        if (source.lane != target.lane) {
            return CAST;
        }
        if (!source.holds(i, n) || !target.holds(j, n)) {
            return INDEX;
        }
        System.arraycopy(source.items, i, target.items, j, n);
        return n;
    }

    // ---- what the calls above share

    private static boolean isPence(int v) {
        return v >= 0 && v <= MOST_PENCE;
    }

    private static boolean isShare(int v) {
        return v >= 0 && v <= MOST_SHARE;
    }

    private static boolean isOwner(int v) {
        return v >= 0 && v <= MOST_OWNER;
    }

    private static boolean isPart(int v) {
        return v == 0 || v == 1;
    }

    private static boolean isSheet(int v) {
        return v >= 0 && v < SHEETS;
    }

    private static boolean isLane(int v) {
        return v >= BYTES && v <= LONGS;
    }

    private static boolean isIn(int set, int house) {
        return (set >> house & 1) == 1;
    }

    private static boolean areSigns(long w, int n) {
        for (int k = 0; k < n; k++) {
            int sign = byteOf(w, k);
            if (sign < FIRST_SIGN || sign > LAST_SIGN) {
                return false;
            }
        }
        return true;
    }

    /** The byte of w that has k lower ones. */
    private static int byteOf(long w, int k) {
        return (int) (w >>> 8 * k & 255);
    }

    private static long lowestBits(int lane, long v) {
        if (lane == BYTES) {
            return (byte) v;
        }
        return lane == SHORTS ? (short) v : v;
    }

    private static long lowest(long above, long below, int part) {
        long divisor = commonDivisor(Math.abs(above), below);
        if (divisor == 0) {
            return 0;
        }
        return (part == 0 ? above : below) / divisor;
    }

    private static long commonDivisor(long a, long b) {
        long larger = a;
        long smaller = b;
        // of two longs Euclid's way never takes a hundred steps
        for (int step = 0; step < 100 && smaller != 0; step++) {
            long rest = larger % smaller;
            larger = smaller;
            smaller = rest;
        }
        return larger;
    }

    private long trialLessNow(int house, int part) {
        rents.solve(now);
        if (!rents.reaches(house)) {
            return NONE - SO_MUCH_LESS;
        }
        long nowAbove = rents.above[house];
        long nowBelow = rents.below;
        rents.solve(trial);
        if (!rents.reaches(house)) {
            return NONE - SO_MUCH_LESS;
        }
        long above = rents.above[house] * nowBelow - nowAbove * rents.below;
        return lowest(above, rents.below * nowBelow, part);
    }

    private void fillIncomes(int a, int b) {
        rents.solve(now);
        for (int pair = 0; pair < TRIED * TRIED; pair++) {
            rents.reprice(a, TRIED_STEP * (pair / TRIED));
            rents.reprice(b, TRIED_STEP * (pair % TRIED));
            firstIncomes[pair] = rents.incomeAbove(now, now.owners[a]);
            secondIncomes[pair] = rents.incomeAbove(now, now.owners[b]);
        }
    }

    private boolean isRest(int pair) {
        int first = pair / TRIED;
        int second = pair % TRIED;
        for (int other = 0; other < TRIED; other++) {
            if (firstIncomes[TRIED * other + second] > firstIncomes[pair]
                    || secondIncomes[TRIED * first + other] > secondIncomes[pair]) {
                return false;
            }
        }
        return true;
    }

    /** Uses the trial town, which must be as the town is now but for what was bought before. */
    private boolean isCheapWhenBought(int set, int v, int house, int limit) {
        for (int h = 0; h < now.size; h++) {
            boolean isBought = isIn(set, h);
            trial.kinds[h] = isBought ? FROZEN : now.kinds[h];
            trial.asks[h] = isBought ? v : now.asks[h];
        }
        rents.solve(trial);
        return rents.reaches(house) && rents.above[house] <= limit * rents.below;
    }

    /** Why n items of a sheet from i on can't be had, or 0. */
    private int refusal(int sheet, int lane, int i, int n) {
        if (!isSheet(sheet) || !isLane(lane)) {
            return BAD;
        }
        if (!sheets[sheet].isThere) {
            return NULL;
        }
        if (sheets[sheet].lane != lane) {
            return CAST;
        }
        return sheets[sheet].holds(i, n) ? 0 : INDEX;
    }

    /** All that an image keeps. */
    private static final class Town {
        int size;
        final int[] kinds = new int[MOST_HOUSES];
        final int[] asks = new int[MOST_HOUSES];
        final int[] owners = new int[MOST_HOUSES];
        final int[] caps = new int[MOST_HOUSES];
        /** Each share stands twice, so that a house's shares are one stretch. */
        final int[] shares = new int[MOST_HOUSES * MOST_HOUSES];
        int purse = FIRST_PURSE;
        int years;
        private final int[] askedAhead = new int[MOST_HOUSES];

        boolean has(int house) {
            return house >= 0 && house < size;
        }

        boolean hasTwo(int a, int b) {
            return has(a) && has(b) && a != b;
        }

        boolean isFixed(int house) {
            return kinds[house] == GATE || kinds[house] == FROZEN;
        }

        int build(int kind, int asking) {
            int house = size;
            kinds[house] = kind;
            asks[house] = asking;
            owners[house] = 0;
            caps[house] = MOST_PENCE;
            size++;
            return house;
        }

        int shareOf(int a, int b) {
            return shares[MOST_HOUSES * a + b];
        }

        void putShare(int a, int b, int v) {
            shares[MOST_HOUSES * a + b] = v;
            shares[MOST_HOUSES * b + a] = v;
        }

        void pullDown(int house) {
            for (int h = 0; h < MOST_HOUSES; h++) {
                putShare(house, h, 0);
            }
        }

        /** The purse and the years stay, as they do when a text takes the place of all houses. */
        void clear() {
            size = 0;
            for (int k = 0; k < MOST_HOUSES * MOST_HOUSES; k++) {
                shares[k] = 0;
            }
        }

        int weight(int house) {
            int weight = 0;
            for (int h = 0; h < size; h++) {
                weight += shareOf(house, h);
            }
            return weight;
        }

        int pairs() {
            int pairs = 0;
            for (int a = 0; a < size; a++) {
                for (int b = 0; b < a; b++) {
                    if (shareOf(a, b) > 0) {
                        pairs++;
                    }
                }
            }
            return pairs;
        }

        int fixedSet() {
            int set = 0;
            for (int h = 0; h < size; h++) {
                if (isFixed(h)) {
                    set |= 1 << h;
                }
            }
            return set;
        }

        int reachedSet() {
            int set = fixedSet();
            int lastReached = set;
            // the farthest house is fewer steps away than there are houses
            for (int step = 0; step < size && lastReached != 0; step++) {
                int beside = 0;
                for (int h = 0; h < size; h++) {
                    if (isIn(lastReached, h)) {
                        beside |= besideSet(h);
                    }
                }
                lastReached = beside & ~set;
                set |= lastReached;
            }
            return set;
        }

        private int besideSet(int house) {
            int set = 0;
            for (int h = 0; h < size; h++) {
                if (shareOf(house, h) > 0) {
                    set |= 1 << h;
                }
            }
            return set;
        }

        /** How many houses ask otherwise than ahead of it. */
        int passYear() {
            System.arraycopy(asks, 0, askedAhead, 0, MOST_HOUSES);
            int others = 0;
            for (int h = 0; h < size; h++) {
                if (!isFixed(h)) {
                    asks[h] = askingAfter(h);
                }
                if (asks[h] != askedAhead[h]) {
                    others++;
                }
            }
            return others;
        }

        private int askingAfter(int house) {
            int weight = weight(house);
            if (weight == 0) {
                return askedAhead[house];
            }
            int together = 0;
            for (int h = 0; h < size; h++) {
                together += shareOf(house, h) * askedAhead[h];
            }
            int mean = together / weight;
            return kinds[house] == CAPPED ? Math.min(mean, caps[house]) : mean;
        }

        void takeFrom(Town other) {
            size = other.size;
            purse = other.purse;
            years = other.years;
            System.arraycopy(other.kinds, 0, kinds, 0, MOST_HOUSES);
            System.arraycopy(other.asks, 0, asks, 0, MOST_HOUSES);
            System.arraycopy(other.owners, 0, owners, 0, MOST_HOUSES);
            System.arraycopy(other.caps, 0, caps, 0, MOST_HOUSES);
            System.arraycopy(other.shares, 0, shares, 0, MOST_HOUSES * MOST_HOUSES);
        }
    }

    /**
     * The rents of the town that was solved last, all over one number below. That number hangs on
     * kinds and shares alone, so incomes of other askings can be weighed by what is above.
     */
    private static final class Rents {
        private static final int STEPS = MOST_HOUSES;
        private static final int WIDTH = MOST_HOUSES + 1;

        final long[] above = new long[MOST_HOUSES];
        long below = 1;
        private int reached;
        /** The reached houses that are not fixed: those whose rents are not known ahead. */
        private int open;
        private int size;
        /** What each house asks in the rents above; only what fixed ones ask counts. */
        private final int[] asked = new int[MOST_HOUSES];
        /**
         * A row for each open house: what it has of each house's rent, all together 0, and, last,
         * how many steps it has. When solved it has below of its own rent and of fixed ones' alone.
         */
        private final long[] rows = new long[MOST_HOUSES * WIDTH];

        boolean reaches(int house) {
            return isIn(reached, house);
        }

        void solve(Town town) {
            size = town.size;
            reached = town.reachedSet();
            open = reached & ~town.fixedSet();
            fillRows(town);
            clearRows();
            System.arraycopy(town.asks, 0, asked, 0, MOST_HOUSES);
            for (int h = 0; h < size; h++) {
                above[h] = reaches(h) ? rentAbove(h) : 0;
            }
        }

        private void fillRows(Town town) {
            for (int h = 0; h < size; h++) {
                if (isIn(open, h)) {
                    int row = WIDTH * h;
                    for (int other = 0; other < MOST_HOUSES; other++) {
                        rows[row + other] = -town.shareOf(h, other);
                    }
                    int weight = town.weight(h);
                    rows[row + h] = weight;
                    rows[row + STEPS] = weight;
                }
            }
        }

        /**
         * Fractions are never needed: each new number is a determinant of the first ones, so it
         * divides without rest. By Hadamard's bound these are below 1.6 * 10^9, so no difference
         * of two products is too long. The divisors are above 0, as each open house has a way to
         * a fixed one.
         */
        private void clearRows() {
            long divisor = 1;
            for (int k = 0; k < size; k++) {
                if (isIn(open, k)) {
                    for (int h = 0; h < size; h++) {
                        if (h != k && isIn(open, h)) {
                            clearRow(h, k, divisor);
                        }
                    }
                    divisor = rows[WIDTH * k + k];
                }
            }
            below = divisor;
        }

        private void clearRow(int house, int pivot, long divisor) {
            if (divisor == 0) {
                return;
            }
            int row = WIDTH * house;
            int pivotRow = WIDTH * pivot;
            long own = rows[pivotRow + pivot];
            long others = rows[row + pivot];
            for (int k = 0; k < WIDTH; k++) {
                rows[row + k] = (own * rows[row + k] - others * rows[pivotRow + k]) / divisor;
            }
        }

        private long rentAbove(int house) {
            long together = 0;
            for (int h = 0; h < size; h++) {
                if (isIn(reached & ~open, h)) {
                    together += movesAbove(house, h) * asked[h];
                }
            }
            return together;
        }

        long movesAbove(int house, int fixed) {
            if (isIn(open, house)) {
                return -rows[WIDTH * house + fixed];
            }
            return house == fixed ? below : 0;
        }

        long stepsAbove(int house) {
            return isIn(open, house) ? rows[WIDTH * house + STEPS] : 0;
        }

        /** The rents if a fixed house asked so much. */
        void reprice(int fixed, int asking) {
            int more = asking - asked[fixed];
            for (int h = 0; h < size; h++) {
                if (reaches(h)) {
                    above[h] += more * movesAbove(h, fixed);
                }
            }
            asked[fixed] = asking;
        }

        long incomeAbove(Town town, int owner) {
            long together = 0;
            for (int h = 0; h < size; h++) {
                if (town.owners[h] == owner && reaches(h) && above[h] <= town.purse * below) {
                    together += above[h];
                }
            }
            return together;
        }

        boolean areNear(Town town, int pence) {
            for (int h = 0; h < size; h++) {
                if (reaches(h) && Math.abs(town.asks[h] * below - above[h]) > pence * below) {
                    return false;
                }
            }
            return true;
        }
    }

    /** The bytes typed so far, read as a town. */
    private static final class Tape {
        final byte[] bytes = new byte[MOST_BYTES];
        int length;
        private int at;

        void append(long w, int n) {
            for (int k = n - 1; k >= 0; k--) {
                bytes[length] = (byte) byteOf(w, k);
                length++;
            }
        }

        /** How many houses, or a fault. */
        int readTown(Town town) {
            at = 0;
            int fault = readHouses(town);
            if (fault == 0 && at < length) {
                at++;
                fault = readShares(town);
            }
            return fault == 0 ? town.size : fault;
        }

        /** A fault or 0; then all is read, or all up to a semicolon. */
        private int readHouses(Town town) {
            for (int h = 0; h < MOST_HOUSES; h++) {
                int kind = kindOf(nextSign());
                if (kind == NONE) {
                    return faultHere();
                }
                at++;
                int asking = readNumber();
                if (asking == NONE) {
                    return faultHere();
                }
                town.build(kind, asking);
                int sign = nextSign();
                if (sign == END || sign == ';') {
                    return 0;
                }
                if (sign != ',' || h == MOST_HOUSES - 1) {
                    return faultHere();
                }
                at++;
            }
            return faultHere();
        }

        private int readShares(Town town) {
            long toldPairs = 0;
            for (int k = 0; k < MOST_TEXT_SHARES; k++) {
                int a = readDigit(town.size);
                if (a == NONE) {
                    return faultHere();
                }
                int b = digitOf(nextSign(), town.size);
                if (b == NONE || a == b || (toldPairs >> pairPlace(a, b) & 1) == 1) {
                    return faultHere();
                }
                toldPairs |= 1L << pairPlace(a, b);
                at++;
                if (nextSign() != '=') {
                    return faultHere();
                }
                at++;
                int v = readDigit(MOST_SHARE + 1);
                if (v == NONE) {
                    return faultHere();
                }
                town.putShare(a, b, v);
                int sign = nextSign();
                if (sign == END) {
                    return 0;
                }
                if (sign != ',' || k == MOST_TEXT_SHARES - 1) {
                    return faultHere();
                }
                at++;
            }
            return faultHere();
        }

        private int faultHere() {
            return FIRST_FAULT - at;
        }

        private static int pairPlace(int a, int b) {
            return MOST_HOUSES * Math.min(a, b) + Math.max(a, b);
        }

        /** Goes behind blanks, no farther. */
        private int nextSign() {
            while (at < length && bytes[at] == ' ') {
                at++;
            }
            return at < length ? bytes[at] : END;
        }

        private static int kindOf(int sign) {
            switch (sign) {
                case 'p':
                    return PLAIN;
                case 'g':
                    return GATE;
                case 'c':
                    return CAPPED;
                case 'f':
                    return FROZEN;
                default:
                    return NONE;
            }
        }

        private static int digitOf(int sign, int bound) {
            int digit = sign - '0';
            return digit >= 0 && digit < bound ? digit : NONE;
        }

        /** Stays ahead of what is no digit below the bound. */
        private int readDigit(int bound) {
            int digit = digitOf(nextSign(), bound);
            if (digit != NONE) {
                at++;
            }
            return digit;
        }

        /** Stays ahead of what is no number that may be, as its fault is its first byte's. */
        private int readNumber() {
            nextSign();
            int value = 0;
            int end = at;
            while (end < length && digitOf(bytes[end], 10) != NONE) {
                // what is too much stays too much, however many digits come
                value = Math.min(10 * value + digitOf(bytes[end], 10), MOST_PENCE + 1);
                end++;
            }
            if (end == at || value > MOST_PENCE) {
                return NONE;
            }
            at = end;
            return value;
        }
    }

    /** One row of items, each as a long with no more bits of its own than the lane has. */
    private static final class Sheet {
        boolean isThere;
        int lane;
        int length;
        final long[] items = new long[MOST_ITEMS];

        void renew(int newLane, int n) {
            isThere = true;
            lane = newLane;
            length = n;
            for (int k = 0; k < MOST_ITEMS; k++) {
                items[k] = 0;
            }
        }

        boolean holds(int i, int n) {
            return i >= 0 && n >= 0 && i <= length - n;
        }
    }
}
