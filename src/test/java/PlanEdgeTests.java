/** Part 2 of the document's terms: PLANS, BEST, VALUE, MARGIN, BENDS, DONE at their boundaries. */
public final class PlanEdgeTests {
    private static final int NONE = Check.NONE, NOT = Check.NOT, M = Check.M;

    public static void main(String[] args) {
        leastLevelFirst();
        leastLevelSellsEarly();
        noPlanTooMuch();
        noPlanThenThereIs();
        toldOfThePlan();
        hourOfThePlan();
        valueOfTwentyFour();
        valueAndBestAgree();
        marginOneOfBoth();
        marginNeverRises();
        bendsOfFewLevels();
        bendsCounted();
        bendsNeedNoPlanFromStart();
        doneByThePlan();
        doneKeepsTheSum();
        doneLast();
        doneRefused();
        the512thCall();
        Check.end();
    }

    private static void leastLevelFirst() {
        StoreSlopes x = new StoreSlopes();
        x.law(20, 20, 0, 9, 0);
        // One unit for nothing in any hour ahead of 20: the last of them keeps the levels lowest.
        for (int h = 0; h < 24; h++) Check.due("bought late, hour " + h, x.hour(h, 3), h == 19 ? 1 : 0);
        x.room(19, 19, 0);
        Check.due("no room in 19: nothing can be brought through it", x.told(8), M);
        x.room(19, 19, 10);
        x.law(19, 19, 0, 1, 0);
        Check.due("dearer in 19: bought in 18", x.hour(18, 4), 101);
        x.hold(1);
        // Now one in 18 costs 2 for lying there, one in 19 costs 1 and 1.
        Check.due("the same in 18 and 19: bought in 19", x.hour(19, 4), 101);
        Check.due("and nothing in 18", x.hour(18, 4), 100);
        Check.due("best", x.told(8), M + 7);
    }

    private static void leastLevelSellsEarly() {
        StoreSlopes x = new StoreSlopes();
        x.law(0, 23, 0, 6, 0);
        x.store(0, 2);
        x.begin(5);
        int[] levels = {3, 1, 0, 0};
        for (int h = 0; h < 4; h++) Check.due("sold early, hour " + h, x.hour(h, 3), levels[h]);
        x.law(1, 1, 0, 7, 0);
        int[] dearer = {3, 1, 0, 0};
        for (int h = 0; h < 4; h++) Check.due("two of them dearer, hour " + h, x.hour(h, 3), dearer[h]);
        x.law(5, 23, 0, 7, 0);
        int[] later = {5, 3, 3, 3, 3, 1, 0, 0};
        for (int h = 0; h < 8; h++) Check.due("the others dearer later, hour " + h, x.hour(h, 3), later[h]);
        Check.due("best", x.told(8), M + 35);
    }

    private static void noPlanTooMuch() {
        StoreSlopes x = new StoreSlopes();
        Check.due("9 as much as may be", x.begin(11), M);
        Check.due("9 one more", x.begin(12), NONE);
        Check.due("2 best", x.told(8), NONE);
        Check.due("7 takes don't help", x.store(9, 1), NONE);
        Check.due("7 gives do", x.store(9, 2), M);
        Check.due("8 less room", x.room(0, 0, 9), NONE);
        Check.due("8 more room", x.room(0, 0, 10), M);
        Check.due("8 no room in the last hour, but time enough", x.room(23, 23, 0), M);
        Check.due("8 no room in hour 4, and no time", x.room(4, 4, 0), NONE);
        Check.due("17 that undone", x.undo(1), 7);
        Check.due("8 no room in hour 5, just time", x.room(5, 5, 0), M);
        x.room(4, 5, 0);
        Check.due("10 hold", x.hold(9), NONE);
        Check.due("11 worth", x.worth(99), NONE);
        Check.due("12 spread", x.spread(50), NONE);
        Check.due("13 law", x.law(0, 23, 0, 99, 0), NONE);
        Check.due("14 drop", x.drop(0), NONE);
        Check.due("15 done", x.done(), NOT);
        Check.due("16 drift", x.drift(1), 1);
    }

    private static void noPlanThenThereIs() {
        StoreSlopes x = new StoreSlopes();
        x.begin(60);
        x.store(9, 9);
        Check.due("8 room 50", x.room(0, 23, 50), NONE);
        Check.due("8 room 51", x.room(0, 23, 51), M);
        Check.due("17 undone", x.undo(1), 3);
        Check.due("2 then none again", x.told(8), NONE);
    }

    private static void toldOfThePlan() {
        StoreSlopes x = new StoreSlopes();
        x.begin(12);
        for (int what : new int[] {8, 10, 11, 12}) Check.due("2 told " + what + " without plan", x.told(what), NONE);
        int[] others = {0, 12, 1, 1, 0, 100, 0, 0};
        for (int what = 0; what < 8; what++) Check.due("2 told " + what + " without plan", x.told(what), others[what]);
        Check.due("2 told 9 without plan", x.told(9), M);
        Check.due("2 told 13 without plan", x.told(13), 1);
        x.begin(11);
        int[] want = {M, 0, 11, 0};
        int[] of = {8, 10, 11, 12};
        // Nothing is got by it, but lower levels are taken: one goes in each hour.
        for (int i = 0; i < 4; i++) Check.due("2 told " + of[i] + " with a plan", x.told(of[i]), want[i]);
    }

    private static void hourOfThePlan() {
        StoreSlopes x = new StoreSlopes();
        x.law(0, 0, 0, -4, 0);
        x.store(9, 9);
        Check.due("3 level", x.hour(0, 3), 9);
        Check.due("3 bought nine", x.hour(0, 4), 109);
        Check.due("3 sold nine", x.hour(1, 4), 91);
        x.done();
        for (int what = 3; what <= 5; what++) Check.due("3 over " + what, x.hour(0, what), NONE);
        for (int what = 3; what <= 4; what++) Check.due("3 not over " + what, x.hour(1, what), what == 3 ? 0 : 91);
        Check.due("3 not over 5", x.hour(1, 5), 0);
        x.begin(60);
        for (int h = 0; h < 24; h++) {
            for (int what = 3; what <= 5; what++) Check.due("3 without plan " + h + " " + what, x.hour(h, what), NONE);
            Check.due("3 without plan, room", x.hour(h, 1), 10);
            Check.due("3 without plan, price", x.hour(h, 0), h == 0 ? 9996 : 10000);
            Check.due("3 without plan, law", x.hour(h, 2), h == 0 ? 0 : NONE);
        }
    }

    private static void valueOfTwentyFour() {
        StoreSlopes x = new StoreSlopes();
        x.room(0, 23, 0);
        x.store(0, 0);
        x.worth(-99);
        for (int level = 0; level <= 60; level++) Check.due("5 value 24 " + level, x.value(24, level), M - 99 * level);
        Check.due("5 value 23 0", x.value(23, 0), M);
        Check.due("5 value 23 1", x.value(23, 1), NONE);
        Check.due("6 margin 24 0", x.margin(24, 0), M - 99);
        Check.due("6 margin 24 59", x.margin(24, 59), M - 99);
        Check.due("6 margin 23 0", x.margin(23, 0), NONE);
    }

    private static StoreSlopes drawn(int seed) {
        StoreSlopes x = new StoreSlopes();
        x.seed(seed);
        x.drift(6);
        x.store(seed % 10, seed / 10 % 10);
        x.room(0, 23, 5 + seed % 56);
        x.room(seed % 24, seed % 24, seed % 61);
        x.hold(seed % 4);
        x.spread(seed % 11);
        x.worth(seed % 199 - 99);
        return x;
    }

    private static void valueAndBestAgree() {
        for (int seed = 1; seed < 60; seed += 7) {
            for (int level = 0; level <= 60; level += 3) {
                StoreSlopes x = drawn(seed);
                Check.due("5 value is best from there", x.value(0, level), x.begin(level));
                Check.due("2 and as told", x.told(8), x.value(0, level));
            }
        }
    }

    private static void marginOneOfBoth() {
        for (int seed = 1; seed < 90; seed += 8) {
            StoreSlopes x = drawn(seed);
            for (int level = 0; level < 60; level++) {
                int lower = x.value(7, level), upper = x.value(7, level + 1);
                int want = lower == NONE || upper == NONE ? NONE : upper - lower + M;
                Check.due("6 margin 7 " + level, x.margin(7, level), want);
            }
        }
    }

    private static void marginNeverRises() {
        for (int seed = 1; seed < 200; seed += 3) {
            StoreSlopes x = drawn(seed);
            for (int h = 0; h < 24; h += 4) {
                int before = x.margin(h, 0), changes = 0;
                for (int level = 1; level < 60; level++) {
                    int margin = x.margin(h, level);
                    Check.holds("6 side by side, " + h + " " + level, before != NONE || margin == NONE);
                    if (margin == NONE) break;
                    Check.holds("6 never rises, " + h + " " + level, margin <= before);
                    if (margin != before) changes++;
                    before = margin;
                }
                Check.due("3 bends of " + h, x.hour(h, 6), changes);
            }
        }
    }

    private static void bendsOfFewLevels() {
        for (int room = 0; room <= 2; room++) {
            StoreSlopes x = new StoreSlopes();
            x.law(23, 23, 0, 10, 0);
            x.store(1, 0);
            x.room(23, 23, room);
            x.worth(30);
            // From level 0 one is bought for 10, from level 'room' none can be: margins 10 or 30.
            Check.due("5 value of the highest", x.value(23, room), M + 30 * room);
            Check.due("5 value of one more", x.value(23, room + 1), NONE);
            Check.due("3 bends with room " + room, x.hour(23, 6), room == 2 ? 1 : 0);
        }
        StoreSlopes y = new StoreSlopes();
        y.law(23, 23, 0, 10, 0);
        y.store(1, 0);
        y.room(23, 23, 2);
        y.worth(30);
        Check.due("6 margin 23 0", y.margin(23, 0), M + 30);
        Check.due("6 margin 23 1", y.margin(23, 1), M + 10);
        Check.due("6 margin 23 2", y.margin(23, 2), NONE);
        y.room(22, 22, 60);
        Check.due("3 the same an hour earlier, none can be given", y.hour(22, 6), 1);
    }

    private static void bendsCounted() {
        StoreSlopes x = new StoreSlopes();
        x.room(0, 23, 60);
        x.law(23, 23, 0, 40, 0);
        x.law(22, 22, 0, 30, 0);
        x.law(21, 21, 0, 20, 0);
        x.store(0, 9);
        // Nine at 40, nine at 30, nine at 20, the others at 0 ..: a unit more is worth so much less each time.
        int[] margins = {40, 30, 20, 0};
        for (int level = 0; level < 60; level++) {
            Check.due("6 margin 21 " + level, x.margin(21, level), M + margins[Math.min(3, level / 9)]);
        }
        Check.due("3 bends of 23", x.hour(23, 6), 1);
        Check.due("3 bends of 22", x.hour(22, 6), 2);
        Check.due("3 bends of 21", x.hour(21, 6), 3);
        Check.due("3 bends of 20: sold for nothing or kept for nothing", x.hour(20, 6), 3);
        x.worth(40);
        Check.due("3 bends of 23, worth as the price", x.hour(23, 6), 0);
        x.worth(99);
        Check.due("3 bends of 23, worth more", x.hour(23, 6), 0);
        x.store(9, 9);
        Check.due("3 bends of 23, till nine less than 60", x.hour(23, 6), 1);
        Check.due("6 margin 23 50", x.margin(23, 50), M + 99);
        Check.due("6 margin 23 51", x.margin(23, 51), M + 40);
        Check.due("6 margin 23 59", x.margin(23, 59), M + 40);
    }

    private static void bendsNeedNoPlanFromStart() {
        StoreSlopes x = new StoreSlopes();
        x.law(23, 23, 0, 40, 0);
        int before = x.hour(23, 6);
        Check.due("3 bends", before, 1);
        x.begin(60);
        Check.due("2 no plan", x.told(8), NONE);
        Check.due("3 bends are of all levels", x.hour(23, 6), before);
        x.room(0, 23, 0);
        x.store(0, 0);
        // Even then one can begin with nothing: no bend, and not NONE.
        for (int h = 0; h < 24; h++) Check.due("3 bends of one level", x.hour(h, 6), 0);
    }

    private static void doneByThePlan() {
        StoreSlopes x = new StoreSlopes();
        x.law(0, 0, 0, 3, 0);
        x.law(1, 1, 0, 20, 0);
        x.store(5, 2);
        x.hold(2);
        x.spread(4);
        Check.due("15 buys two for 3 and holds them for 2", x.done(), M - 10);
        Check.due("2 cash", x.told(9), M - 10);
        Check.due("2 start", x.told(1), 2);
        Check.due("2 over", x.told(0), 1);
        Check.due("2 a deed", x.told(13), 6);
        Check.due("15 sells two for 20 less 4", x.done(), M + 22);
        Check.due("2 start", x.told(1), 0);
        Check.due("15 does nothing", x.done(), M + 22);
        Check.due("2 over", x.told(0), 3);
        Check.due("17 undone", x.undo(2), 6);
        int[] want = {1, 2, M - 10};
        int[] of = {0, 1, 9};
        for (int i = 0; i < 3; i++) Check.due("17 as ahead of it, told " + of[i], x.told(of[i]), want[i]);
        Check.due("9 another start", x.begin(0), M);
        Check.due("2 cash stays", x.told(9), M - 10);
    }

    private static void doneKeepsTheSum() {
        for (int seed = 3; seed < 200; seed += 13) {
            StoreSlopes x = drawn(seed);
            int sum = x.told(8) + x.told(9);
            for (int h = 0; h < 24; h++) {
                int level = x.hour(h, 3);
                Check.due("15 done answers cash", x.done(), x.told(9));
                Check.due("15 start is the level by the plan", x.told(1), level);
                Check.due("15 what is got and what is left", x.told(8) + x.told(9), sum);
            }
        }
    }

    private static void doneLast() {
        StoreSlopes x = new StoreSlopes();
        x.store(0, 0);
        x.begin(4);
        x.worth(-5);
        x.hold(1);
        for (int h = 0; h < 23; h++) x.done();
        Check.due("2 best ahead of the last", x.told(8), M - 4 - 20);
        Check.due("15 the last", x.done(), M - 24 * 4);
        Check.due("2 worth is yet to be got", x.told(8), M - 20);
        int[] want = {24, 4, 0, 0, 4, 28};
        int[] of = {0, 1, 10, 11, 12, 13};
        for (int i = 0; i < 6; i++) Check.due("2 all over, told " + of[i], x.told(of[i]), want[i]);
        Check.due("15 all are over", x.done(), NOT);
        Check.due("9 begin 60, no room counts any more", x.begin(60), M - 300);
        Check.due("17 the latest done undone", x.undo(2), 27);
        Check.due("2 hour 23 is left", x.told(0), 23);
        Check.due("15 and done again", x.done(), M - 24 * 4);
    }

    private static void doneRefused() {
        StoreSlopes x = new StoreSlopes();
        x.begin(12);
        Check.due("15 there is no plan", x.done(), NOT);
        Check.due("2 none is over", x.told(0), 0);
        Check.due("2 cash", x.told(9), M);
        Check.due("2 start", x.told(1), 12);
        Check.due("2 no deed more", x.told(13), 1);
        x.begin(11);
        Check.due("15 there is one", x.done(), M);
    }

    private static void the512thCall() {
        StoreSlopes x = new StoreSlopes();
        for (int i = 0; i < 510; i++) x.begin(i % 61);
        Check.due("the 511th call", x.undo(40), 0);
        Check.due("the 512th call", x.told(1), 469 % 61);
    }
}
