import java.util.ArrayList;
import java.util.List;

/**
 * The document in its plainest form, written apart from the class: every step from every level is
 * tried, every state is copied whole, and DEAR is looked for one by one.
 */
final class Model {
    static final int NONE = -1, UNKNOWN = -1000000001, OUTSIDE = -1000000002, NOT = -1000000003, FULL = -1000000004;
    private static final long NO = Long.MIN_VALUE / 4;

    static final class Law {
        final int f, u, kind, a, b;

        Law(int f, int u, int kind, int a, int b) {
            this.f = f;
            this.u = u;
            this.kind = kind;
            this.a = a;
            this.b = b;
        }
    }

    /** What can be undone and kept; also what is altered for the questions "what if". */
    static final class World {
        int over, start, takes = 1, gives = 1, hold, worth, spread, cash;
        int[] room = new int[24];
        List<Law> laws = new ArrayList<>();
        int shut = -1, askedHour = -1, askedPrice;
        private long[][] values;

        World() {
            java.util.Arrays.fill(room, 10);
        }

        World copy() {
            World w = new World();
            w.over = over;
            w.start = start;
            w.takes = takes;
            w.gives = gives;
            w.hold = hold;
            w.worth = worth;
            w.spread = spread;
            w.cash = cash;
            w.room = room.clone();
            w.laws = new ArrayList<>(laws);
            return w;
        }

        int lawOf(int h, int count) {
            int found = NONE;
            for (int k = 0; k < count; k++) {
                if (laws.get(k).f <= h && h <= laws.get(k).u) found = k;
            }
            return found;
        }

        int price(int h) {
            return h == askedHour ? askedPrice : priceBy(h, laws.size());
        }

        int priceBy(int h, int count) {
            int k = lawOf(h, count);
            if (k == NONE) return 0;
            Law law = laws.get(k);
            if (law.kind == 0) return law.a;
            if (law.kind == 1) return law.a + law.b * (h - law.f);
            if (law.kind == 2) return ((h - law.f) & 1) == 0 ? law.a : law.b;
            if (law.kind == 3) return law.a + law.b * Math.abs(2 * h - (law.f + law.u));
            int ahead = priceBy(h, k);
            return law.a < ahead ? law.a : ahead + law.b;
        }

        boolean allowed(int h, int x, int y) {
            if (y < 0 || y > room[h]) return false;
            if (h == shut) return x == y;
            return y - x <= takes && x - y <= gives;
        }

        long step(int h, int x, int y) {
            long bought = Math.max(0, y - x);
            long sold = Math.max(0, x - y);
            return sold * (price(h) - spread) - bought * price(h) - (long) hold * y;
        }

        long value(int h, int x) {
            if (values == null) fill();
            return values[h][x];
        }

        private void fill() {
            values = new long[25][61];
            for (int x = 0; x <= 60; x++) values[24][x] = (long) worth * x;
            for (int h = 23; h >= 0; h--) {
                for (int x = 0; x <= 60; x++) {
                    long most = NO;
                    for (int y = Math.max(0, x - 9); y <= Math.min(60, x + 9); y++) {
                        if (allowed(h, x, y) && values[h + 1][y] != NO) most = Math.max(most, step(h, x, y) + values[h + 1][y]);
                    }
                    values[h][x] = most;
                }
            }
        }

        boolean hasPlan() {
            return value(over, start) != NO;
        }

        int best() {
            return hasPlan() ? (int) value(over, start) + 1000000 : NONE;
        }

        int[] plan() {
            int[] levels = new int[24];
            int x = start;
            for (int h = over; h < 24; h++) {
                int y = 0;
                while (!allowed(h, x, y) || value(h + 1, y) == NO || step(h, x, y) + value(h + 1, y) != value(h, x)) y++;
                levels[h] = y;
                x = y;
            }
            return levels;
        }

        int planBefore(int h, int[] plan) {
            return h == over ? start : plan[h - 1];
        }

        int planned(int h) {
            int[] plan = plan();
            return plan[h] - planBefore(h, plan);
        }

        World with(int h, int price) {
            World w = copy();
            w.askedHour = h;
            w.askedPrice = price;
            return w;
        }
    }

    World now = new World();
    List<World> past = new ArrayList<>();
    World[] images = new World[2];
    int[] imageSeeds = new int[2];
    long seed;

    private void deed() {
        past.add(now);
        if (past.size() > 40) past.remove(0);
        now = now.copy();
    }

    private static boolean hour(int h) {
        return h >= 0 && h < 24;
    }

    private static boolean in(int v, int least, int most) {
        return v >= least && v <= most;
    }

    int told(int what) {
        int[] plain = {now.over, now.start, now.takes, now.gives, now.hold, now.worth + 100, now.spread, now.laws.size()};
        if (in(what, 0, 7)) return plain[what];
        if (what == 8) return now.best();
        if (what == 9) return now.cash + 1000000;
        if (what == 13) return past.size();
        if (!in(what, 10, 12)) return OUTSIDE;
        if (!now.hasPlan()) return NONE;
        int bought = 0, sold = 0, level = now.start;
        int[] plan = now.plan();
        for (int h = now.over; h < 24; h++) {
            bought += Math.max(0, plan[h] - level);
            sold += Math.max(0, level - plan[h]);
            level = plan[h];
        }
        return what == 10 ? bought : what == 11 ? sold : level;
    }

    int hour(int h, int what) {
        if (!hour(h)) return UNKNOWN;
        if (!in(what, 0, 6)) return OUTSIDE;
        if (what == 0) return now.price(h) + 10000;
        if (what == 1) return now.room[h];
        if (what == 2) return now.lawOf(h, now.laws.size());
        if (what == 6) return bends(h);
        if (h < now.over || !now.hasPlan()) return NONE;
        if (what == 3) return now.plan()[h];
        if (what == 4) return now.planned(h) + 100;
        for (int d = 0; d <= 999; d++) {
            if (now.with(h, now.price(h) + d).planned(h) <= 0) return d;
        }
        return NONE;
    }

    private int bends(int h) {
        List<Long> margins = new ArrayList<>();
        boolean any = false;
        for (int x = 0; x <= 60; x++) {
            any = any || now.value(h, x) != NO;
            if (x < 60 && now.value(h, x) != NO && now.value(h, x + 1) != NO) margins.add(now.value(h, x + 1) - now.value(h, x));
        }
        int count = 0;
        for (int i = 1; i < margins.size(); i++) {
            if (margins.get(i) > margins.get(i - 1)) throw new IllegalStateException("a margin rises");
            if (!margins.get(i).equals(margins.get(i - 1))) count++;
        }
        return any ? count : NONE;
    }

    int lawAt(int k, int what) {
        if (!in(k, 0, now.laws.size() - 1)) return UNKNOWN;
        if (!in(what, 0, 5)) return OUTSIDE;
        Law law = now.laws.get(k);
        int hours = 0;
        for (int h = 0; h < 24; h++) {
            if (now.lawOf(h, now.laws.size()) == k) hours++;
        }
        return new int[] {law.f, law.u, law.kind, law.a + 100, law.b + 10, hours}[what];
    }

    int value(int h, int level) {
        if (!in(h, 0, 24)) return UNKNOWN;
        if (!in(level, 0, 60)) return OUTSIDE;
        return now.value(h, level) == NO ? NONE : (int) now.value(h, level) + 1000000;
    }

    int margin(int h, int level) {
        if (!in(h, 0, 24)) return UNKNOWN;
        if (!in(level, 0, 59)) return OUTSIDE;
        if (now.value(h, level) == NO || now.value(h, level + 1) == NO) return NONE;
        return (int) (now.value(h, level + 1) - now.value(h, level)) + 1000000;
    }

    int store(int takes, int gives) {
        if (!in(takes, 0, 9) || !in(gives, 0, 9)) return OUTSIDE;
        deed();
        now.takes = takes;
        now.gives = gives;
        return now.best();
    }

    int room(int f, int u, int room) {
        if (!hour(f) || !hour(u)) return UNKNOWN;
        if (!in(room, 0, 60)) return OUTSIDE;
        deed();
        for (int h = 0; h < 24; h++) {
            if (f <= h && h <= u) now.room[h] = room;
        }
        return now.best();
    }

    int begin(int level) {
        if (!in(level, 0, 60)) return OUTSIDE;
        deed();
        now.start = level;
        return now.best();
    }

    int hold(int cost) {
        if (!in(cost, 0, 9)) return OUTSIDE;
        deed();
        now.hold = cost;
        return now.best();
    }

    int worth(int worth) {
        if (!in(worth, -99, 99)) return OUTSIDE;
        deed();
        now.worth = worth;
        return now.best();
    }

    int spread(int spread) {
        if (!in(spread, 0, 50)) return OUTSIDE;
        deed();
        now.spread = spread;
        return now.best();
    }

    int law(int f, int u, int kind, int a, int b) {
        if (!hour(f) || !hour(u)) return UNKNOWN;
        if (f > u || !in(kind, 0, 4) || !in(a, -99, 99) || !in(b, -9, 9)) return OUTSIDE;
        if (now.laws.size() == 12) return FULL;
        deed();
        now.laws.add(new Law(f, u, kind, a, b));
        return now.best();
    }

    int drop(int k) {
        if (!in(k, 0, now.laws.size() - 1)) return UNKNOWN;
        deed();
        now.laws.remove(k);
        return now.best();
    }

    int done() {
        if (now.over == 24 || !now.hasPlan()) return NOT;
        int to = now.plan()[now.over];
        long got = now.step(now.over, now.start, to);
        deed();
        now.cash += (int) got;
        now.start = to;
        now.over++;
        return now.cash + 1000000;
    }

    int drift(int n) {
        if (!in(n, 1, 12)) return OUTSIDE;
        for (int i = 0; i < n; i++) {
            if (now.laws.size() == 12) continue;
            int f = draw(24), span = draw(24 - f), kind = draw(5), a = draw(100), b = draw(19) - 9;
            deed();
            now.laws.add(new Law(f, f + span, kind, a, b));
        }
        return now.laws.size();
    }

    private int draw(int n) {
        seed = (seed * 1103515245L + 12345L) % (1L << 31);
        return (int) (seed / 65536 % n);
    }

    int undo(int n) {
        if (!in(n, 1, 40)) return OUTSIDE;
        if (n > past.size()) return NOT;
        for (int i = 0; i < n; i++) now = past.remove(past.size() - 1);
        return past.size();
    }

    int gain(int what) {
        if (!in(what, 0, 3)) return OUTSIDE;
        World then = now.copy();
        if (what == 0) {
            for (int h = 0; h < 24; h++) then.room[h] = Math.min(60, then.room[h] + 1);
        }
        if (what == 1 && then.takes < 9) then.takes++;
        if (what == 2 && then.gives < 9) then.gives++;
        if (what == 3 && then.hold > 0) then.hold--;
        if (!now.hasPlan() || !then.hasPlan()) return NONE;
        return then.best() - now.best();
    }

    int without(int h) {
        if (!hour(h)) return UNKNOWN;
        World then = now.copy();
        then.shut = h;
        return h < now.over ? now.best() : then.best();
    }

    int with(int h, int price) {
        if (!hour(h)) return UNKNOWN;
        if (!in(price, -999, 999)) return OUTSIDE;
        return h < now.over ? now.best() : now.with(h, price).best();
    }

    int seed(int v) {
        if (v < 0) return OUTSIDE;
        int was = (int) seed;
        seed = v;
        return was;
    }

    int keep(int i) {
        if (!in(i, 0, 1)) return UNKNOWN;
        images[i] = now.copy();
        imageSeeds[i] = (int) seed;
        past.clear();
        return 1;
    }

    int goBack(int i) {
        if (!in(i, 0, 1)) return UNKNOWN;
        if (images[i] == null) return NOT;
        now = images[i].copy();
        seed = imageSeeds[i];
        past.clear();
        return 1;
    }
}
