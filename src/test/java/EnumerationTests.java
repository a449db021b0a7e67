import java.util.Random;

/** The last four hours, every plan written out: BEST, THE PLAN, and what is asked about an hour. */
public final class EnumerationTests {
    private static final int FIRST = 20, LEFT = 4, TOP = 7;

    private final Random random;
    private final int run;
    private final int[] price = new int[LEFT];
    private final int[] room = new int[LEFT];
    private final int[] bestPlan = new int[LEFT];
    private int takes, gives, hold, worth, spread, start, shut;
    private int wrong;

    private EnumerationTests(int run) {
        this.run = run;
        random = new Random(7000 + run);
    }

    public static void main(String[] args) {
        int wrong = 0;
        for (int run = 0; run < 400 && wrong < 20; run++) wrong += new EnumerationTests(run).play();
        if (wrong != 0) System.exit(1);
    }

    private void due(String call, int got, int want) {
        if (got == want) return;
        wrong++;
        System.out.println("enumeration run " + run + ": " + call + " answered " + got + ", due is " + want);
    }

    private int play() {
        StoreSlopes x = new StoreSlopes();
        for (int h = 0; h < FIRST; h++) x.done();
        takes = random.nextInt(4);
        gives = random.nextInt(4);
        hold = random.nextInt(3);
        worth = random.nextInt(9) - 3;
        spread = random.nextInt(3);
        start = random.nextInt(TOP + 2);
        x.store(takes, gives);
        x.hold(hold);
        x.worth(worth);
        x.spread(spread);
        x.begin(start);
        for (int i = 0; i < LEFT; i++) {
            price[i] = random.nextInt(11) - 3;
            room[i] = random.nextInt(TOP + 1);
            x.law(FIRST + i, FIRST + i, 0, price[i], 0);
            x.room(FIRST + i, FIRST + i, room[i]);
        }
        shut = -1;
        long best = search();
        boolean any = best != Long.MIN_VALUE;
        due("told(8)", x.told(8), shown(best));
        int level = start;
        for (int i = 0; i < LEFT; i++) {
            due("hour " + (FIRST + i) + " 3", x.hour(FIRST + i, 3), any ? bestPlan[i] : -1);
            due("hour " + (FIRST + i) + " 4", x.hour(FIRST + i, 4), any ? bestPlan[i] - level + 100 : -1);
            level = bestPlan[i];
        }
        for (int i = 0; i < LEFT; i++) askAbout(x, i, any);
        return wrong;
    }

    private void askAbout(StoreSlopes x, int i, boolean any) {
        int h = FIRST + i, kept = price[i];
        shut = i;
        due("without " + h, x.without(h), shown(search()));
        shut = -1;
        price[i] = random.nextInt(60) - 20;
        due("with " + h + " " + price[i], x.with(h, price[i]), shown(search()));
        int dear = -1;
        for (int d = 0; any && dear < 0 && d <= 999; d++) {
            price[i] = kept + d;
            search();
            if (bestPlan[i] <= (i == 0 ? start : bestPlan[i - 1])) dear = d;
        }
        due("hour " + h + " 5", x.hour(h, 5), dear);
        price[i] = kept;
        search();
    }

    private static int shown(long best) {
        return best == Long.MIN_VALUE ? -1 : (int) best + 1000000;
    }

    /** Plans come in the order of their levels, so the first of the best ones is THE PLAN. */
    private long search() {
        long best = Long.MIN_VALUE;
        int[] plan = new int[LEFT];
        for (int code = 0; code < 4096; code++) {
            for (int i = 0; i < LEFT; i++) plan[i] = code >> 3 * (LEFT - 1 - i) & 7;
            long profit = profit(plan);
            if (profit > best) {
                best = profit;
                System.arraycopy(plan, 0, bestPlan, 0, LEFT);
            }
        }
        return best;
    }

    private long profit(int[] plan) {
        long sum = (long) worth * plan[LEFT - 1];
        int level = start;
        for (int i = 0; i < LEFT; i++) {
            int bought = plan[i] - level;
            if (plan[i] > room[i] || bought > (i == shut ? 0 : takes) || -bought > (i == shut ? 0 : gives)) return Long.MIN_VALUE;
            sum -= bought > 0 ? bought * price[i] : bought * (price[i] - spread);
            sum -= (long) hold * plan[i];
            level = plan[i];
        }
        return sum;
    }
}
