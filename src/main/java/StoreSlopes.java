/**
 * A store that trades by hours: what it is worth at best, from each level and at each hour, the plan
 * that gets it with the lowest levels, and what it would be worth if something were otherwise.
 */
public final class StoreSlopes {
    public static final int NONE = -1, UNKNOWN = -1000000001, OUTSIDE = -1000000002, NOT = -1000000003, FULL = -1000000004;

    private static final int HOURS = 24;
    private static final int TOP_LEVEL = 60;
    private static final int LEVELS = TOP_LEVEL + 1;
    private static final int MOST_PACE = 9;
    private static final int MOST_HOLD = 9;
    private static final int MOST_WORTH = 99;
    private static final int MOST_SPREAD = 50;
    private static final int MOST_LAWS = 12;
    private static final int KINDS = 5;
    private static final int MOST_A = 99;
    private static final int MOST_B = 9;
    private static final int MOST_PRICE = 999;
    private static final int MOST_DEAR = 999;
    private static final int MOST_UNDONE = 40;
    private static final int IMAGES = 2;

    private static final int MONEY_SHIFT = 1000000;
    private static final int PRICE_SHIFT = 10000;
    private static final int SIGN_SHIFT = 100;
    private static final int B_SHIFT = 10;

    private final State now;
    private final Slopes asIs;
    private final Slopes trial;
    private final int[] planned;
    private final Shelf deeds;
    private final Shelf images;
    private final int[] imageSeeds;
    private final boolean[] imageKept;
    private int latestDeed;
    private int undoable;
    private int theSeed;

    public StoreSlopes() {
        now = new State();
        asIs = new Slopes();
        trial = new Slopes();
        planned = new int[HOURS];
        deeds = new Shelf(MOST_UNDONE);
        images = new Shelf(IMAGES);
        imageSeeds = new int[IMAGES];
        imageKept = new boolean[IMAGES];
        settle();
    }

    // ---- what is so

    public int told(int what) {
        switch (what) {
            case 0: return now.over;
            case 1: return now.start;
            case 2: return now.takes;
            case 3: return now.gives;
            case 4: return now.holdCost;
            case 5: return now.endWorth + SIGN_SHIFT;
            case 6: return now.sellLoss;
            case 7: return now.lawCount;
            case 8: return bestBy(asIs);
            case 9: return now.cash + MONEY_SHIFT;
            case 10: return hasPlan(asIs) ? plannedTrade(1) : NONE;
            case 11: return hasPlan(asIs) ? plannedTrade(-1) : NONE;
            case 12: return hasPlan(asIs) ? plannedBefore(HOURS) : NONE;
            case 13: return undoable;
            default: return OUTSIDE;
        }
    }

    public int hour(int h, int what) {
        if (!isHour(h)) return UNKNOWN;
        switch (what) {
            case 0: return asIs.prices[h] + PRICE_SHIFT;
            case 1: return now.rooms[h];
            case 2: return now.latestLawOf(h);
            case 3: return isPlanned(h) ? planned[h] : NONE;
            case 4: return isPlanned(h) ? planned[h] - plannedBefore(h) + SIGN_SHIFT : NONE;
            case 5: return isPlanned(h) ? dearness(h) : NONE;
            case 6: return asIs.bends(h);
            default: return OUTSIDE;
        }
    }

    public int lawAt(int k, int what) {
        if (!isLaw(k)) return UNKNOWN;
        switch (what) {
            case 0: return now.lawPart(k, State.F);
            case 1: return now.lawPart(k, State.U);
            case 2: return now.lawPart(k, State.KIND);
            case 3: return now.lawPart(k, State.A) + SIGN_SHIFT;
            case 4: return now.lawPart(k, State.B) + B_SHIFT;
            case 5: return now.hoursRuledBy(k);
            default: return OUTSIDE;
        }
    }

    public int value(int h, int level) {
        if (!isHourOrEnd(h)) return UNKNOWN;
        if (isOutside(level, 0, TOP_LEVEL)) return OUTSIDE;
        return asIs.canLeave(h, level) ? asIs.most(h, level) + MONEY_SHIFT : NONE;
    }

    public int margin(int h, int level) {
        if (!isHourOrEnd(h)) return UNKNOWN;
        if (isOutside(level, 0, TOP_LEVEL - 1)) return OUTSIDE;
        // A level has a plan whenever the one above it has, so one test is enough.
        return asIs.canLeave(h, level + 1) ? asIs.slope(h, level) + MONEY_SHIFT : NONE;
    }

    // ---- deeds

    public int store(int takes, int gives) {
        if (isOutside(takes, 0, MOST_PACE) || isOutside(gives, 0, MOST_PACE)) return OUTSIDE;
        remember();
        now.takes = takes;
        now.gives = gives;
        return settle();
    }

    public int room(int f, int u, int room) {
        if (!isHour(f) || !isHour(u)) return UNKNOWN;
        if (isOutside(room, 0, TOP_LEVEL)) return OUTSIDE;
        remember();
        for (int h = f; h <= u; h++) now.rooms[h] = room;
        return settle();
    }

    public int begin(int level) {
        if (isOutside(level, 0, TOP_LEVEL)) return OUTSIDE;
        remember();
        now.start = level;
        return settle();
    }

    public int hold(int cost) {
        if (isOutside(cost, 0, MOST_HOLD)) return OUTSIDE;
        remember();
        now.holdCost = cost;
        return settle();
    }

    public int worth(int worth) {
        if (isOutside(worth, -MOST_WORTH, MOST_WORTH)) return OUTSIDE;
        remember();
        now.endWorth = worth;
        return settle();
    }

    public int spread(int spread) {
        if (isOutside(spread, 0, MOST_SPREAD)) return OUTSIDE;
        remember();
        now.sellLoss = spread;
        return settle();
    }

    public int law(int f, int u, int kind, int a, int b) {
        if (!isHour(f) || !isHour(u)) return UNKNOWN;
        if (f > u || isOutside(kind, 0, KINDS - 1)) return OUTSIDE;
        if (isOutside(a, -MOST_A, MOST_A) || isOutside(b, -MOST_B, MOST_B)) return OUTSIDE;
        if (now.lawCount >= MOST_LAWS) return FULL;
        remember();
        now.addLaw(f, u, kind, a, b);
        return settle();
    }

    public int drop(int k) {
        if (!isLaw(k)) return UNKNOWN;
        remember();
        now.removeLaw(k);
        return settle();
    }

    public int done() {
        int h = now.over;
        if (!isHour(h) || !hasPlan(asIs)) return NOT;
        remember();
        int next = planned[h];
        now.cash += asIs.takings(h, now.start, next);
        now.start = next;
        now.over = h + 1;
        settle();
        return now.cash + MONEY_SHIFT;
    }

    public int drift(int n) {
        if (isOutside(n, 1, MOST_LAWS)) return OUTSIDE;
        for (int i = 0; i < n && now.lawCount < MOST_LAWS; i++) {
            remember();
            drawLaw();
        }
        settle();
        return now.lawCount;
    }

    public int undo(int n) {
        if (isOutside(n, 1, MOST_UNDONE)) return OUTSIDE;
        if (n > undoable) return NOT;
        int place = Math.floorMod(latestDeed - n + 1, MOST_UNDONE);
        deeds.take(place, now);
        latestDeed = Math.floorMod(latestDeed - n, MOST_UNDONE);
        undoable -= n;
        settle();
        return undoable;
    }

    // ---- asked

    public int gain(int what) {
        if (isOutside(what, 0, 3)) return OUTSIDE;
        trial.load(now);
        switch (what) {
            case 0: trial.widen(); break;
            case 1: trial.takes = Math.min(MOST_PACE, now.takes + 1); break;
            case 2: trial.gives = Math.min(MOST_PACE, now.gives + 1); break;
            default: trial.holdCost = Math.max(0, now.holdCost - 1); break;
        }
        trial.solve(HOURS - 1, now.over);
        if (!hasPlan(asIs) || !hasPlan(trial)) return NONE;
        return bestBy(trial) - bestBy(asIs);
    }

    public int without(int h) {
        if (!isHour(h)) return UNKNOWN;
        if (h < now.over) return bestBy(asIs);
        trial.load(now);
        trial.shutHour = h;
        trial.solve(HOURS - 1, now.over);
        return bestBy(trial);
    }

    public int with(int h, int price) {
        if (!isHour(h)) return UNKNOWN;
        if (isOutside(price, -MOST_PRICE, MOST_PRICE)) return OUTSIDE;
        if (h < now.over) return bestBy(asIs);
        trial.load(now);
        trial.prices[h] = price;
        trial.solve(HOURS - 1, now.over);
        return bestBy(trial);
    }

    // ---- images

    public int seed(int v) {
        if (v < 0) return OUTSIDE;
        int before = theSeed;
        theSeed = v;
        return before;
    }

    public int keep(int i) {
        if (!isImage(i)) return UNKNOWN;
        images.put(i, now);
        imageSeeds[i] = theSeed;
        imageKept[i] = true;
        undoable = 0;
        return 1;
    }

    public int goBack(int i) {
        if (!isImage(i)) return UNKNOWN;
        if (!imageKept[i]) return NOT;
        images.take(i, now);
        theSeed = imageSeeds[i];
        undoable = 0;
        settle();
        return 1;
    }

    // ---- bounds

    private static boolean isOutside(int number, int least, int most) {
        return number < least || number > most;
    }

    private static boolean isHour(int h) {
        return h >= 0 && h < HOURS;
    }

    private static boolean isHourOrEnd(int h) {
        return h >= 0 && h <= HOURS;
    }

    private static boolean isImage(int i) {
        return i >= 0 && i < IMAGES;
    }

    private boolean isLaw(int k) {
        return k >= 0 && k < now.lawCount;
    }

    // ---- worth and plan

    /** Brings all that follows from what is so up to date; answers BEST as the deeds tell it. */
    private int settle() {
        asIs.load(now);
        asIs.solve(HOURS - 1, 0);
        if (hasPlan(asIs)) {
            int level = now.start;
            for (int h = now.over; h < HOURS; h++) {
                level = asIs.next(h, level);
                planned[h] = level;
            }
        }
        return bestBy(asIs);
    }

    private boolean hasPlan(Slopes slopes) {
        return slopes.canLeave(now.over, now.start);
    }

    private int bestBy(Slopes slopes) {
        return hasPlan(slopes) ? slopes.most(now.over, now.start) + MONEY_SHIFT : NONE;
    }

    private boolean isPlanned(int h) {
        return h >= now.over && hasPlan(asIs);
    }

    /** The level by THE PLAN when the hour begins. */
    private int plannedBefore(int h) {
        return h > now.over ? planned[h - 1] : now.start;
    }

    /** What THE PLAN buys (sign 1) or sells (sign -1) in all. */
    private int plannedTrade(int sign) {
        int sum = 0;
        for (int h = now.over; h < HOURS; h++) {
            sum += Math.max(0, sign * (planned[h] - plannedBefore(h)));
        }
        return sum;
    }

    /**
     * BEST is the most of lines over the hour's price whose slopes are what the plans sell in it, so
     * what is bought never rises with the price: halving finds the least rise.
     */
    private int dearness(int h) {
        if (planned[h] <= plannedBefore(h)) return 0;
        trial.load(now);
        trial.solve(HOURS - 1, h + 1);
        int least = 1;
        int most = MOST_DEAR + 1;
        for (int step = 0; step < MOST_DEAR && least < most; step++) {
            int middle = (least + most) / 2;
            trial.prices[h] = asIs.prices[h] + middle;
            trial.solve(h, now.over);
            if (trialBuysIn(h)) least = middle + 1;
            else most = middle;
        }
        return least > MOST_DEAR ? NONE : least;
    }

    private boolean trialBuysIn(int h) {
        int level = now.start;
        for (int i = now.over; i < h; i++) level = trial.next(i, level);
        return trial.next(h, level) > level;
    }

    // ---- deeds and draws

    /** Keeps what is so ahead of a deed; the oldest kept one gives way when the shelf is full. */
    private void remember() {
        latestDeed = Math.floorMod(latestDeed + 1, MOST_UNDONE);
        deeds.put(latestDeed, now);
        undoable = Math.min(MOST_UNDONE, undoable + 1);
    }

    private void drawLaw() {
        int f = draw(HOURS);
        int u = f + draw(HOURS - f);
        int kind = draw(KINDS);
        int a = draw(MOST_A + 1);
        int b = draw(2 * MOST_B + 1) - MOST_B;
        now.addLaw(f, u, kind, a, b);
    }

    private int draw(int n) {
        theSeed = (theSeed * 1103515245 + 12345) & 0x7fffffff;
        return n > 0 ? theSeed / 65536 % n : 0;
    }

    /** All that deeds change and that can be undone. */
    private static final class State {
        static final int F = 0, U = 1, KIND = 2, A = 3, B = 4;
        static final int LAW_PARTS = 5;
        static final int NUMBERS = 9;
        static final int LAW_CELLS = MOST_LAWS * LAW_PARTS;
        static final int CELLS = NUMBERS + HOURS + LAW_CELLS;

        int over;
        int start;
        int takes = 1;
        int gives = 1;
        int holdCost;
        int endWorth;
        int sellLoss;
        int cash;
        int lawCount;
        final int[] rooms = new int[HOURS];
        final int[] laws = new int[LAW_CELLS];

        State() {
            for (int h = 0; h < HOURS; h++) rooms[h] = 10;
        }

        int lawPart(int k, int part) {
            return laws[k * LAW_PARTS + part];
        }

        boolean lawHas(int k, int h) {
            return lawPart(k, F) <= h && h <= lawPart(k, U);
        }

        int latestLawOf(int h) {
            for (int k = lawCount - 1; k >= 0; k--) {
                if (lawHas(k, h)) return k;
            }
            return NONE;
        }

        int hoursRuledBy(int k) {
            int count = 0;
            for (int h = 0; h < HOURS; h++) {
                if (latestLawOf(h) == k) count++;
            }
            return count;
        }

        /** Laws of kind 4 look at the price by the laws ahead of them, so all are gone through in order. */
        int priceOf(int h) {
            int price = 0;
            for (int k = 0; k < lawCount; k++) {
                if (lawHas(k, h)) price = priceByLaw(k, h, price);
            }
            return price;
        }

        int priceByLaw(int k, int h, int ahead) {
            int a = lawPart(k, A);
            int b = lawPart(k, B);
            int away = h - lawPart(k, F);
            switch (lawPart(k, KIND)) {
                case 0: return a;
                case 1: return a + b * away;
                case 2: return away % 2 == 0 ? a : b;
                case 3: return a + b * Math.abs(2 * h - lawPart(k, F) - lawPart(k, U));
                default: return a < ahead ? a : ahead + b;
            }
        }

        void addLaw(int f, int u, int kind, int a, int b) {
            if (lawCount >= MOST_LAWS) return;
            int at = lawCount * LAW_PARTS;
            laws[at + F] = f;
            laws[at + U] = u;
            laws[at + KIND] = kind;
            laws[at + A] = a;
            laws[at + B] = b;
            lawCount++;
        }

        void removeLaw(int k) {
            if (k < 0 || k >= lawCount) return;
            int from = (k + 1) * LAW_PARTS;
            System.arraycopy(laws, from, laws, from - LAW_PARTS, lawCount * LAW_PARTS - from);
            lawCount--;
        }

        void write(int[] cells, int at) {
            cells[at] = over;
            cells[at + 1] = start;
            cells[at + 2] = takes;
            cells[at + 3] = gives;
            cells[at + 4] = holdCost;
            cells[at + 5] = endWorth;
            cells[at + 6] = sellLoss;
            cells[at + 7] = cash;
            cells[at + 8] = lawCount;
            System.arraycopy(rooms, 0, cells, at + NUMBERS, HOURS);
            System.arraycopy(laws, 0, cells, at + NUMBERS + HOURS, LAW_CELLS);
        }

        void read(int[] cells, int at) {
            over = cells[at];
            start = cells[at + 1];
            takes = cells[at + 2];
            gives = cells[at + 3];
            holdCost = cells[at + 4];
            endWorth = cells[at + 5];
            sellLoss = cells[at + 6];
            cash = cells[at + 7];
            lawCount = cells[at + 8];
            System.arraycopy(cells, at + NUMBERS, rooms, 0, HOURS);
            System.arraycopy(cells, at + NUMBERS + HOURS, laws, 0, LAW_CELLS);
        }
    }

    /** Places for states, made once and written over, so that no deed makes an object. */
    private static final class Shelf {
        private final int places;
        private final int[] cells;

        Shelf(int places) {
            this.places = Math.max(0, places);
            cells = new int[this.places * State.CELLS];
        }

        void put(int place, State state) {
            if (place >= 0 && place < places) state.write(cells, place * State.CELLS);
        }

        void take(int place, State state) {
            if (place >= 0 && place < places) state.read(cells, place * State.CELLS);
        }
    }

    /**
     * The most that can be got from each hour and level on. What one unit more is worth never rises
     * with the level, so in each hour two levels tell all: below buyTo one buys up to it, above
     * sellTo one sells down to it, and between them one lies still.
     */
    private static final class Slopes {
        final int[] prices = new int[HOURS];
        final int[] rooms = new int[HOURS];
        int takes;
        int gives;
        int holdCost;
        int endWorth;
        int sellLoss;
        int shutHour;
        private final int[] table = new int[(HOURS + 1) * LEVELS];
        private final int[] highest = new int[HOURS + 1];
        private final int[] buyTo = new int[HOURS];
        private final int[] sellTo = new int[HOURS];

        void load(State state) {
            takes = state.takes;
            gives = state.gives;
            holdCost = state.holdCost;
            endWorth = state.endWorth;
            sellLoss = state.sellLoss;
            shutHour = NONE;
            for (int h = 0; h < HOURS; h++) {
                prices[h] = state.priceOf(h);
                rooms[h] = state.rooms[h];
            }
        }

        void widen() {
            for (int h = 0; h < HOURS; h++) rooms[h] = Math.min(TOP_LEVEL, rooms[h] + 1);
        }

        /** Solves the hours from last down to first; those behind last must have been solved. */
        void solve(int last, int first) {
            if (last >= HOURS - 1) solveEnd();
            for (int h = Math.min(last, HOURS - 1); h >= Math.max(first, 0); h--) solveHour(h);
        }

        private void solveEnd() {
            highest[HOURS] = TOP_LEVEL;
            for (int x = 0; x <= TOP_LEVEL; x++) table[HOURS * LEVELS + x] = endWorth * x;
        }

        private void solveHour(int h) {
            int cap = Math.min(rooms[h], highest[h + 1]);
            buyTo[h] = leastNotAbove(h + 1, 0, cap, prices[h] + holdCost);
            sellTo[h] = leastNotAbove(h + 1, buyTo[h], cap, prices[h] - sellLoss + holdCost);
            highest[h] = Math.min(TOP_LEVEL, cap + givesIn(h));
            for (int x = 0; x <= highest[h]; x++) {
                int y = next(h, x);
                table[h * LEVELS + x] = takings(h, x, y) + most(h + 1, y);
            }
        }

        /** The least level from which one unit more is worth no more than the bound; at most cap. */
        private int leastNotAbove(int h, int from, int cap, int bound) {
            int y = from;
            while (y < cap && slope(h, y) > bound) y++;
            return y;
        }

        /** What is got in the hour, less what is paid, if the level goes from x to y in it. */
        int takings(int h, int x, int y) {
            int price = y > x ? prices[h] : prices[h] - sellLoss;
            return price * (x - y) - holdCost * y;
        }

        /** The least of the best levels when the hour is over, if x lies there when it begins. */
        int next(int h, int x) {
            if (x < buyTo[h]) return Math.min(buyTo[h], x + takesIn(h));
            if (x > sellTo[h]) return Math.max(sellTo[h], x - givesIn(h));
            return x;
        }

        private int takesIn(int h) {
            return h == shutHour ? 0 : takes;
        }

        private int givesIn(int h) {
            return h == shutHour ? 0 : gives;
        }

        boolean canLeave(int h, int x) {
            return x <= highest[h];
        }

        int most(int h, int x) {
            return table[h * LEVELS + x];
        }

        int slope(int h, int x) {
            return most(h, x + 1) - most(h, x);
        }

        /** From level 0 there is always a plan, so this always has an answer. */
        int bends(int h) {
            int count = 0;
            for (int x = 0; x + 2 <= highest[h]; x++) {
                if (slope(h, x) != slope(h, x + 1)) count++;
            }
            return count;
        }
    }
}
