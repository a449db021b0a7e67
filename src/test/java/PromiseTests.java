/** For each promise of the document its ordinary answers, the edges that it names, and wrong inputs. */
public final class PromiseTests {
    private static final int NONE = -1, UNKNOWN = -1000000001, OUTSIDE = -1000000002, NOT = -1000000003, FULL = -1000000004;
    private static final int LOW = Integer.MIN_VALUE, HIGH = Integer.MAX_VALUE;
    private static final int M = 1000000;
    private static int wrong = 0;

    private static void due(String what, int got, int want) {
        if (got == want) return;
        wrong++;
        System.out.println(what + " answered " + got + ", due is " + want);
    }

    public static void main(String[] args) {
        newObject();
        told();
        hours();
        dearAndBends();
        kindsOfLaws();
        lawAt();
        valueAndMargin();
        store();
        room();
        begin();
        hold();
        worth();
        spread();
        law();
        drop();
        done();
        drift();
        undo();
        gain();
        without();
        with();
        seed();
        images();
        refusedChangesNothing();
        if (wrong != 0) System.exit(1);
    }

    /** 2 in hour 0, 10 in hour 1, 0 else: bought for 2, sold for 10. */
    private static StoreSlopes cheapThenDear() {
        StoreSlopes x = new StoreSlopes();
        x.law(0, 0, 0, 2, 0);
        x.law(1, 1, 0, 10, 0);
        return x;
    }

    private static void newObject() {
        StoreSlopes x = new StoreSlopes();
        int[] first = {0, 0, 1, 1, 0, 100, 0, 0, M, M, 0, 0, 0, 0};
        for (int i = 0; i < first.length; i++) due("1: told " + i, x.told(i), first[i]);
        for (int h = 0; h < 24; h++) {
            int[] of = {10000, 10, NONE, 0, 100, 0, 0};
            for (int i = 0; i < of.length; i++) due("1: hour " + h + " " + i, x.hour(h, i), of[i]);
        }
        due("1: seed", x.seed(0), 0);
        due("1: undo", x.undo(1), NOT);
        due("1: goBack 0", x.goBack(0), NOT);
        due("1: goBack 1", x.goBack(1), NOT);
        due("1: lawAt", x.lawAt(0, 0), UNKNOWN);
    }

    private static void told() {
        StoreSlopes x = cheapThenDear();
        x.store(3, 2);
        x.begin(1);
        x.hold(1);
        x.worth(-7);
        x.spread(4);
        // Buys 3 at 2 to the level 4? Only 2 can be sold at 10 - 4; what is left costs 1 an hour and 7 at the end,
        // and can be sold later for 0 - 4. So one is bought, two are sold: -2 - 2 (two lie there) + 12 = 8.
        int[] want = {0, 1, 3, 2, 1, 93, 4, 2, M + 8, M, 1, 2, 0, 7};
        for (int i = 0; i < want.length; i++) due("2: told " + i, x.told(i), want[i]);
        due("2: done", x.done(), M - 4);
        int[] then = {1, 2, 3, 2, 1, 93, 4, 2, M + 12, M - 4, 0, 2, 0, 8};
        for (int i = 0; i < then.length; i++) due("2: then told " + i, x.told(i), then[i]);
        x.begin(60);
        for (int i : new int[] {8, 10, 11, 12}) due("2: without plan told " + i, x.told(i), NONE);
        due("2: without plan told 9", x.told(9), M - 4);
        for (int i : new int[] {-1, 14, LOW, HIGH}) due("2: told " + i, x.told(i), OUTSIDE);
    }

    private static void hours() {
        StoreSlopes x = cheapThenDear();
        x.room(0, 0, 7);
        int[] first = {10002, 7, 0, 1, 101, 8, 1};
        int[] second = {10010, 10, 1, 0, 99, 0, 1};
        for (int i = 0; i < 7; i++) due("3: hour 0 " + i, x.hour(0, i), first[i]);
        for (int i = 0; i < 7; i++) due("3: hour 1 " + i, x.hour(1, i), second[i]);
        x.done();
        int[] over = {10002, 7, 0, NONE, NONE, NONE, 1};
        for (int i = 0; i < 7; i++) due("3: over hour 0 " + i, x.hour(0, i), over[i]);
        for (int i = 0; i < 7; i++) due("3: then hour 1 " + i, x.hour(1, i), second[i]);
        x.begin(60);
        int[] none = {10010, 10, 1, NONE, NONE, NONE, 1};
        for (int i = 0; i < 7; i++) due("3: without plan hour 1 " + i, x.hour(1, i), none[i]);
        for (int h : new int[] {-1, 24, LOW, HIGH}) {
            due("3: hour " + h, x.hour(h, 0), UNKNOWN);
            due("3: hour " + h + " 99", x.hour(h, 99), UNKNOWN);
        }
        for (int i : new int[] {-1, 7, LOW, HIGH}) due("3: hour 23 " + i, x.hour(23, i), OUTSIDE);
        due("3: latest law counts", latestCounts(), 10005);
    }

    private static int latestCounts() {
        StoreSlopes x = new StoreSlopes();
        x.law(0, 23, 0, 50, 0);
        x.law(3, 4, 0, 5, 0);
        due("3: law of 2", x.hour(2, 2), 0);
        due("3: law of 4", x.hour(4, 2), 1);
        due("3: law of 5", x.hour(5, 2), 0);
        return x.hour(4, 0);
    }

    private static void dearAndBends() {
        StoreSlopes x = new StoreSlopes();
        x.law(0, 0, 0, -99, 0);
        x.law(1, 1, 0, 99, 0);
        // At 99 it is no more worth buying than not, and the lower level is taken.
        due("3: dear", x.hour(0, 5), 198);
        due("3: nothing bought", x.hour(1, 5), 0);
        x.worth(99);
        // Only ten of the 22 free hours can be used: the lowest levels buy late, and a dearer hour gives way.
        due("3: full store buys late", x.hour(13, 5), 0);
        due("3: and then buys", x.hour(14, 5), 1);
        due("3: bought in 14", x.hour(14, 4), 101);
        StoreSlopes y = new StoreSlopes();
        y.store(1, 1);
        y.worth(5);
        y.law(0, 23, 0, 50, 0);
        y.room(0, 23, 3);
        // From hour 23: sell one for 50 or keep it for 5: margins 50, 5, 5 and the fourth must be sold.
        int[] margins = {50, 5, 5, 5};
        for (int i = 0; i < 4; i++) due("6: margin 23 " + i, y.margin(23, i), M + margins[i]);
        due("6: margin 23 4", y.margin(23, 4), NONE);
        due("3: bends 23", y.hour(23, 6), 1);
        due("3: bends 22", y.hour(22, 6), 1);
        y.law(23, 23, 0, 80, 0);
        y.spread(20);
        // In hour 22: bought for 50 to sell at 60, sold for 30, or kept for 5.
        due("3: bends 22, dearer", y.hour(22, 6), 2);
        y.store(1, 0);
        y.room(23, 23, 0);
        due("3: bends of one level", y.hour(22, 6), 0);
    }

    private static void kindsOfLaws() {
        StoreSlopes x = new StoreSlopes();
        x.law(4, 9, 0, -7, 9);
        int[] kind0 = {0, -7, -7, -7, -7, -7, -7, 0};
        x.law(12, 17, 1, 20, -3);
        int[] kind1 = {0, 20, 17, 14, 11, 8, 5, 0};
        for (int i = 0; i < 8; i++) due("13: kind 0 in " + (3 + i), x.hour(3 + i, 0), 10000 + kind0[i]);
        for (int i = 0; i < 8; i++) due("13: kind 1 in " + (11 + i), x.hour(11 + i, 0), 10000 + kind1[i]);
        StoreSlopes y = new StoreSlopes();
        y.law(5, 8, 2, 40, -2);
        int[] kind2 = {0, 40, -2, 40, -2, 0};
        y.law(15, 18, 3, 10, 4);
        int[] kind3 = {0, 22, 14, 14, 22, 0};
        for (int i = 0; i < 6; i++) due("13: kind 2 in " + (4 + i), y.hour(4 + i, 0), 10000 + kind2[i]);
        for (int i = 0; i < 6; i++) due("13: kind 3 in " + (14 + i), y.hour(14 + i, 0), 10000 + kind3[i]);
        y.law(4, 9, 4, 1, 5);
        // By those ahead: 0, 40, -2, 40, -2, 0; 1 is less than 40 alone.
        int[] kind4 = {5, 1, 3, 1, 3, 5};
        for (int i = 0; i < 6; i++) due("13: kind 4 in " + (4 + i), y.hour(4 + i, 0), 10000 + kind4[i]);
        y.law(4, 9, 4, 5, -1);
        int[] again = {4, 0, 2, 0, 2, 4};
        for (int i = 0; i < 6; i++) due("13: kind 4 upon 4 in " + (4 + i), y.hour(4 + i, 0), 10000 + again[i]);
    }

    private static void lawAt() {
        StoreSlopes x = new StoreSlopes();
        x.law(2, 21, 3, -99, -9);
        x.law(20, 23, 4, 99, 9);
        int[] first = {2, 21, 3, 1, 1, 18};
        int[] second = {20, 23, 4, 199, 19, 4};
        for (int i = 0; i < 6; i++) due("4: lawAt 0 " + i, x.lawAt(0, i), first[i]);
        for (int i = 0; i < 6; i++) due("4: lawAt 1 " + i, x.lawAt(1, i), second[i]);
        x.done();
        due("4: hours over count", x.lawAt(0, 5), 18);
        for (int k : new int[] {-1, 2, 12, LOW, HIGH}) {
            due("4: lawAt " + k, x.lawAt(k, 0), UNKNOWN);
            due("4: lawAt " + k + " 9", x.lawAt(k, 9), UNKNOWN);
        }
        for (int i : new int[] {-1, 6, LOW, HIGH}) due("4: lawAt 1 " + i, x.lawAt(1, i), OUTSIDE);
    }

    private static void valueAndMargin() {
        StoreSlopes x = cheapThenDear();
        x.worth(-3);
        due("5: value 24 60", x.value(24, 60), M - 180);
        due("5: value 24 0", x.value(24, 0), M);
        due("6: margin 24 59", x.margin(24, 59), M - 3);
        due("5: value 0 0", x.value(0, 0), M + 8);
        due("5: value 0 1", x.value(0, 1), M + 10);
        due("5: value 0 2", x.value(0, 2), M + 12);
        due("6: margin 0 0", x.margin(0, 0), M + 2);
        due("5: value 1 0", x.value(1, 0), M);
        due("6: margin 1 0", x.margin(1, 0), M + 10);
        due("5: value 0 11", x.value(0, 11), M + 12);
        due("5: value 0 12", x.value(0, 12), NONE);
        due("5: value 0 60", x.value(0, 60), NONE);
        due("6: margin 0 10", x.margin(0, 10), M);
        due("6: margin 0 11", x.margin(0, 11), NONE);
        due("6: margin 0 59", x.margin(0, 59), NONE);
        x.done();
        due("5: value of an hour that is over", x.value(0, 0), M + 8);
        for (int h : new int[] {-1, 25, LOW, HIGH}) {
            due("5: value " + h, x.value(h, 0), UNKNOWN);
            due("5: value " + h + " 61", x.value(h, 61), UNKNOWN);
            due("6: margin " + h, x.margin(h, 0), UNKNOWN);
            due("6: margin " + h + " 60", x.margin(h, 60), UNKNOWN);
        }
        for (int level : new int[] {-1, 61, LOW, HIGH}) {
            due("5: value 24 " + level, x.value(24, level), OUTSIDE);
            due("6: margin 24 " + level, x.margin(24, level), OUTSIDE);
        }
        due("6: margin 24 60", x.margin(24, 60), OUTSIDE);
    }

    private static void store() {
        StoreSlopes x = cheapThenDear();
        due("7: store 3 2", x.store(3, 2), M + 16);
        due("7: takes", x.told(2), 3);
        due("7: gives", x.told(3), 2);
        due("7: store 9 9", x.store(9, 9), M + 72);
        due("7: store 0 9", x.store(0, 9), M);
        due("7: store 9 0", x.store(9, 0), M);
        x.begin(60);
        due("7: too much lies there", x.store(0, 9), NONE);
        due("7: store 10 0", x.store(10, 0), OUTSIDE);
        due("7: store 0 10", x.store(0, 10), OUTSIDE);
        due("7: store -1 0", x.store(-1, 0), OUTSIDE);
        due("7: store 0 -1", x.store(0, -1), OUTSIDE);
        due("7: takes", x.told(2), 0);
        due("7: gives", x.told(3), 9);
    }

    private static void room() {
        StoreSlopes x = cheapThenDear();
        x.store(9, 9);
        due("8: room of hour 0", x.room(0, 0, 4), M + 32);
        due("8: room 60", x.room(0, 23, 60), M + 72);
        due("8: room of one hour", x.room(5, 5, 0), M + 72);
        due("8: room 4", x.hour(4, 1), 60);
        due("8: room 5", x.hour(5, 1), 0);
        due("8: room 6", x.hour(6, 1), 60);
        x.begin(60);
        due("8: too much", x.room(0, 0, 50), NONE);
        due("8: just so much", x.room(0, 0, 51), NONE);
        due("8: and down", x.room(5, 5, 6), M + 2 * 9 + 10 * 9);
        due("8: f unknown", x.room(-1, 3, 5), UNKNOWN);
        due("8: f unknown", x.room(24, 3, 5), UNKNOWN);
        due("8: u unknown", x.room(3, 24, 61), UNKNOWN);
        due("8: u unknown", x.room(3, -1, -1), UNKNOWN);
        due("8: room -1", x.room(0, 23, -1), OUTSIDE);
        due("8: room 61", x.room(0, 23, 61), OUTSIDE);
        int deeds = x.told(13);
        due("8: no hours from 3 to 2", x.room(3, 2, 1), x.told(8));
        due("8: room 3", x.hour(3, 1), 60);
        due("8: room 2", x.hour(2, 1), 60);
        due("8: it is a deed", x.told(13), deeds + 1);
    }

    private static void begin() {
        StoreSlopes x = cheapThenDear();
        due("9: begin 1", x.begin(1), M + 10);
        due("9: start", x.told(1), 1);
        due("9: begin 11", x.begin(11), M + 12);
        due("9: begin 12", x.begin(12), NONE);
        due("9: begin 60", x.begin(60), NONE);
        due("9: begin 61", x.begin(61), OUTSIDE);
        due("9: begin -1", x.begin(-1), OUTSIDE);
        due("9: start", x.told(1), 60);
        due("9: begin 0", x.begin(0), M + 8);
    }

    private static void hold() {
        StoreSlopes x = cheapThenDear();
        due("10: hold 1", x.hold(1), M + 7);
        due("10: hold 7", x.hold(7), M + 1);
        due("10: hold 8", x.hold(8), M);
        due("10: nothing bought", x.told(10), 0);
        due("10: hold 9", x.hold(9), M);
        due("10: told", x.told(4), 9);
        due("10: hold 10", x.hold(10), OUTSIDE);
        due("10: hold -1", x.hold(-1), OUTSIDE);
        x.room(0, 23, 60);
        x.store(0, 0);
        // What can't be sold is paid for in each of the 24 hours.
        due("10: paid in all hours", x.begin(2), M - 24 * 9 * 2);
    }

    private static void worth() {
        StoreSlopes x = cheapThenDear();
        due("11: worth 5", x.worth(5), M + 8 + 50);
        due("11: level at the end", x.told(12), 10);
        due("11: worth 99", x.worth(99), M + 8 + 990);
        due("11: worth -99", x.worth(-99), M + 8);
        due("11: told", x.told(5), 1);
        due("11: worth 100", x.worth(100), OUTSIDE);
        due("11: worth -100", x.worth(-100), OUTSIDE);
        x.store(0, 0);
        due("11: less than nothing", x.begin(10), M - 990);
    }

    private static void spread() {
        StoreSlopes x = cheapThenDear();
        due("12: spread 3", x.spread(3), M + 5);
        due("12: told", x.told(6), 3);
        due("12: spread 8", x.spread(8), M);
        due("12: nothing bought", x.told(10), 0);
        due("12: spread 50", x.spread(50), M);
        due("12: keeps what has no worth", x.begin(3), M);
        due("12: nothing sold", x.told(11), 0);
        due("12: spread 51", x.spread(51), OUTSIDE);
        due("12: spread -1", x.spread(-1), OUTSIDE);
        x.room(23, 23, 2);
        due("12: one must go", x.told(8), M - 40);
    }

    private static void law() {
        StoreSlopes x = new StoreSlopes();
        due("13: f -1", x.law(-1, 99, 9, 999, 99), UNKNOWN);
        due("13: f 24", x.law(24, 24, 0, 0, 0), UNKNOWN);
        due("13: u 24", x.law(0, 24, 9, 0, 0), UNKNOWN);
        due("13: u -1", x.law(0, -1, 0, 0, 0), UNKNOWN);
        due("13: f above u", x.law(5, 4, 0, 0, 0), OUTSIDE);
        due("13: kind 5", x.law(0, 0, 5, 0, 0), OUTSIDE);
        due("13: kind -1", x.law(0, 0, -1, 0, 0), OUTSIDE);
        due("13: a 100", x.law(0, 0, 0, 100, 0), OUTSIDE);
        due("13: a -100", x.law(0, 0, 0, -100, 0), OUTSIDE);
        due("13: b 10", x.law(0, 0, 0, 0, 10), OUTSIDE);
        due("13: b -10", x.law(0, 0, 0, 0, -10), OUTSIDE);
        due("13: none told", x.told(7), 0);
        due("13: a -99, b 9", x.law(0, 0, 0, -99, 9), M + 99);
        for (int i = 1; i < 12; i++) due("13: law " + i, x.law(i, i, 0, 0, 0), M + 99);
        due("13: twelve", x.told(7), 12);
        due("13: full", x.law(0, 23, 0, 0, 0), FULL);
        due("13: outside ahead of full", x.law(0, 23, 5, 0, 0), OUTSIDE);
        due("13: unknown ahead of full", x.law(0, 24, 5, 0, 0), UNKNOWN);
        due("13: as deeds", x.told(13), 12);
        x.done();
        x.drop(0);
        due("13: for hours that are over", x.law(0, 1, 0, 3, 0), M + 3);
        due("13: price of an hour that is over", x.hour(0, 0), 10003);
    }

    private static void drop() {
        StoreSlopes x = cheapThenDear();
        due("14: drop 2", x.drop(2), UNKNOWN);
        due("14: drop -1", x.drop(-1), UNKNOWN);
        x.law(0, 1, 0, 7, 0);
        due("14: all at one price", x.told(8), M);
        due("14: the latest", x.drop(2), M + 8);
        due("14: the first", x.drop(0), M + 10);
        due("14: later ones have one less", x.lawAt(0, 0), 1);
        due("14: price", x.lawAt(0, 3), 110);
        due("14: and its hour", x.hour(1, 2), 0);
        due("14: no other", x.lawAt(1, 0), UNKNOWN);
        due("14: the last", x.drop(0), M);
        due("14: none left", x.drop(0), UNKNOWN);
        due("14: as deeds", x.told(13), 6);
    }

    private static void done() {
        StoreSlopes x = cheapThenDear();
        x.hold(1);
        x.worth(6);
        due("15: best", x.told(8), M + 22);
        due("15: buys for 2, holds for 1", x.done(), M - 3);
        due("15: over", x.told(0), 1);
        due("15: start", x.told(1), 1);
        due("15: best of what is left", x.told(8), M + 25);
        due("15: sells for 10", x.done(), M + 7);
        due("15: start", x.told(1), 0);
        for (int h = 2; h < 24; h++) {
            int sum = x.told(8) + x.told(9);
            x.done();
            due("15: what is got and what is left, hour " + h, x.told(8) + x.told(9), sum);
        }
        due("15: all over", x.told(0), 24);
        // One more for 6 at the end is bought for nothing in each of the last five hours.
        due("15: start at the end", x.told(1), 5);
        due("15: the worth is left as best", x.told(8), M + 30);
        due("15: nothing bought", x.told(10), 0);
        due("15: nothing sold", x.told(11), 0);
        due("15: level at the end", x.told(12), 5);
        due("15: no hour left", x.done(), NOT);
        due("15: without an hour that is over", x.without(3), M + 30);
        due("15: with one", x.with(3, 50), M + 30);
        due("15: gain", x.gain(1), 0);
        due("15: undo", x.undo(24), 4);
        due("15: as ahead", x.told(8) + x.told(9), 2 * M + 22);
        x.begin(60);
        due("15: no plan", x.done(), NOT);
        due("15: nothing is over", x.told(0), 0);
    }

    private static void drift() {
        StoreSlopes x = new StoreSlopes();
        x.seed(163);
        due("16: drift 2", x.drift(2), 2);
        int[] first = {12, 12, 3, 136, 15, 0};
        int[] second = {11, 13, 2, 142, 7, 3};
        for (int i = 0; i < 6; i++) due("16: lawAt 0 " + i, x.lawAt(0, i), first[i]);
        for (int i = 0; i < 6; i++) due("16: lawAt 1 " + i, x.lawAt(1, i), second[i]);
        due("16: each is a deed", x.told(13), 2);
        due("16: drift 12", x.drift(12), 12);
        due("16: ten more", x.told(13), 12);
        int seed = x.seed(5);
        x.seed(seed);
        due("16: full", x.drift(12), 12);
        due("16: then nothing is drawn", x.seed(1), seed);
        due("16: drift 0", x.drift(0), OUTSIDE);
        due("16: drift 13", x.drift(13), OUTSIDE);
        due("16: drift -1", x.drift(-1), OUTSIDE);
        StoreSlopes y = new StoreSlopes();
        y.drift(1);
        // Five draws from 0.
        long s = 0;
        for (int i = 0; i < 5; i++) s = (s * 1103515245L + 12345L) % 2147483648L;
        due("16: the seed goes on", y.seed(0), (int) s);
    }

    private static void undo() {
        StoreSlopes x = cheapThenDear();
        x.store(2, 3);
        x.room(3, 5, 7);
        x.begin(4);
        x.hold(1);
        x.worth(9);
        x.spread(2);
        x.drop(0);
        x.done();
        x.drift(2);
        due("17: undo 0", x.undo(0), OUTSIDE);
        due("17: undo 41", x.undo(41), OUTSIDE);
        due("17: undo 40", x.undo(40), NOT);
        due("17: undo 12", x.undo(13), NOT);
        int seed = x.seed(0);
        x.seed(seed);
        due("17: one law by draws", x.undo(1), 11);
        due("17: laws", x.told(7), 2);
        due("17: the other and done", x.undo(2), 9);
        due("17: over", x.told(0), 0);
        due("17: cash", x.told(9), M);
        due("17: start", x.told(1), 4);
        due("17: drop", x.undo(1), 8);
        due("17: first law", x.lawAt(0, 3), 102);
        due("17: spread", x.undo(1), 7);
        due("17: spread", x.told(6), 0);
        due("17: worth", x.undo(1), 6);
        due("17: worth", x.told(5), 100);
        due("17: hold", x.undo(1), 5);
        due("17: hold", x.told(4), 0);
        due("17: begin", x.undo(1), 4);
        due("17: start", x.told(1), 0);
        due("17: room", x.undo(1), 3);
        due("17: room", x.hour(4, 1), 10);
        due("17: store and law", x.undo(2), 1);
        due("17: laws", x.told(7), 1);
        due("17: takes", x.told(2), 1);
        due("17: the seed stays", x.seed(0), seed);
        due("17: not two more", x.undo(2), NOT);
        due("17: the first", x.undo(1), 0);
        due("17: none left", x.undo(1), NOT);
        due("17: laws", x.told(7), 0);
    }

    private static void gain() {
        StoreSlopes x = cheapThenDear();
        x.hold(1);
        due("18: room", x.gain(0), 0);
        due("18: takes", x.gain(1), 0);
        due("18: gives", x.gain(2), 0);
        due("18: hold", x.gain(3), 1);
        x.store(2, 1);
        due("18: gives with takes 2", x.gain(2), 7);
        x.store(1, 2);
        due("18: takes with gives 2", x.gain(1), 7);
        x.store(9, 9);
        due("18: takes 9", x.gain(1), 0);
        due("18: gives 9", x.gain(2), 0);
        x.room(0, 23, 4);
        due("18: room", x.gain(0), 7);
        due("18: nothing changes", x.hour(0, 1), 4);
        x.room(0, 23, 60);
        due("18: room 60", x.gain(0), 0);
        x.hold(0);
        due("18: hold 0", x.gain(3), 0);
        x.store(0, 0);
        x.room(0, 23, 5);
        x.begin(6);
        for (int i = 0; i < 4; i++) due("18: no plan as it is " + i, x.gain(i), NONE);
        for (int i : new int[] {-1, 4, LOW, HIGH}) due("18: gain " + i, x.gain(i), OUTSIDE);
    }

    private static void without() {
        StoreSlopes x = cheapThenDear();
        x.hold(1);
        due("19: without 0", x.without(0), M);
        due("19: without 1", x.without(1), M);
        due("19: without 2", x.without(2), M + 7);
        x.begin(1);
        due("19: holding is paid for", x.without(0), M + 9);
        due("19: without 1", x.without(1), M + 2);
        x.begin(11);
        due("19: room", x.without(0), NONE);
        due("19: best is as it was", x.told(8) != NONE ? 1 : 0, 1);
        x.begin(0);
        x.done();
        due("19: over", x.without(0), x.told(8));
        x.begin(12);
        due("19: no plan", x.without(0), NONE);
        due("19: no plan", x.without(5), NONE);
        for (int h : new int[] {-1, 24, LOW, HIGH}) due("19: without " + h, x.without(h), UNKNOWN);
    }

    private static void with() {
        StoreSlopes x = cheapThenDear();
        x.spread(1);
        due("20: with 0 -999", x.with(0, -999), M + 999 + 9);
        due("20: with 1 999", x.with(1, 999), M + 999 - 2 - 1);
        due("20: with 23 999", x.with(23, 999), M + 7 + 998);
        due("20: price stays", x.hour(1, 0), 10010);
        due("20: with 0 10", x.with(0, 10), M);
        x.done();
        due("20: over", x.with(0, 999), x.told(8));
        due("20: over, outside", x.with(0, 1000), OUTSIDE);
        x.begin(12);
        due("20: no plan", x.with(1, 5), NONE);
        due("20: no plan, over", x.with(0, 5), NONE);
        due("20: 1000", x.with(1, 1000), OUTSIDE);
        due("20: -1000", x.with(1, -1000), OUTSIDE);
        for (int h : new int[] {-1, 24, LOW, HIGH}) due("20: with " + h, x.with(h, 1000), UNKNOWN);
    }

    private static void seed() {
        StoreSlopes x = new StoreSlopes();
        due("21: first", x.seed(HIGH), 0);
        due("21: -1", x.seed(-1), OUTSIDE);
        due("21: lowest", x.seed(LOW), OUTSIDE);
        due("21: highest", x.seed(7), HIGH);
        due("21: no deed", x.told(13), 0);
        due("21: it counts", x.seed(163), 7);
        x.drift(1);
        due("21: law", x.lawAt(0, 0), 12);
    }

    private static void images() {
        StoreSlopes x = cheapThenDear();
        for (int i : new int[] {-1, 2, LOW, HIGH}) {
            due("22: keep " + i, x.keep(i), UNKNOWN);
            due("23: goBack " + i, x.goBack(i), UNKNOWN);
        }
        due("23: not kept", x.goBack(1), NOT);
        due("22: refused, so it can be undone", x.told(13), 2);
        x.seed(77);
        x.done();
        due("22: keep", x.keep(1), 1);
        due("22: nothing can be undone", x.told(13), 0);
        due("22: nothing can be undone", x.undo(1), NOT);
        due("22: the same is so", x.told(0), 1);
        x.drift(3);
        x.room(0, 23, 60);
        x.store(9, 9);
        due("23: the other was not kept", x.goBack(0), NOT);
        due("22: keep the other", x.keep(0), 1);
        x.done();
        due("23: go back", x.goBack(1), 1);
        int[] want = {1, 1, 1, 1, 0, 100, 0, 2, M + 10, M - 2, 0, 1, 0, 0};
        for (int i = 0; i < want.length; i++) due("23: told " + i, x.told(i), want[i]);
        due("23: room", x.hour(9, 1), 10);
        due("23: seed", x.seed(5), 77);
        x.begin(3);
        due("23: the other", x.goBack(0), 1);
        due("23: takes", x.told(2), 9);
        due("23: laws", x.told(7), 5);
        due("23: nothing can be undone", x.told(13), 0);
        x.hold(3);
        due("23: and again", x.goBack(0), 1);
        due("23: the image is as it was", x.told(4), 0);
        StoreSlopes y = new StoreSlopes();
        for (int i = 0; i < 50; i++) y.begin(i % 10);
        due("17: 40 at most", y.told(13), 40);
        due("17: all 40", y.undo(40), 0);
        due("17: as ahead of the 11th", y.told(1), 9);
        for (int i = 0; i < 30; i++) y.begin(i);
        due("17: 25 of 30", y.undo(25), 5);
        due("17: as after the fifth", y.told(1), 4);
        due("17: the other 5", y.undo(5), 0);
        due("17: as ahead of all", y.told(1), 9);
    }

    private static void refusedChangesNothing() {
        StoreSlopes x = cheapThenDear();
        x.law(24, 24, 9, 999, 99);
        x.law(0, 1, 0, 0, 99);
        x.room(0, 23, 61);
        x.room(0, 24, 5);
        x.store(1, 10);
        x.store(10, 1);
        x.begin(61);
        x.hold(10);
        x.worth(100);
        x.spread(51);
        x.drop(2);
        x.drift(13);
        x.undo(3);
        x.undo(41);
        x.keep(2);
        x.goBack(0);
        x.seed(-5);
        int[] want = {0, 0, 1, 1, 0, 100, 0, 2, M + 8, M, 1, 1, 0, 2};
        for (int i = 0; i < want.length; i++) due("refused: told " + i, x.told(i), want[i]);
        for (int h = 0; h < 24; h++) due("refused: room " + h, x.hour(h, 1), 10);
        due("refused: seed", x.seed(0), 0);
    }
}
