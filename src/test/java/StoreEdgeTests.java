/** Part 1 of the document's terms: each sentence that names a boundary has a test, named by its words. */
public final class StoreEdgeTests {
    private static final int NONE = Check.NONE, UNKNOWN = Check.UNKNOWN, NOT = Check.NOT, FULL = Check.FULL, M = Check.M;

    public static void main(String[] args) {
        someOfTheFirstMayBeOver();
        takesAtMostSoMany();
        givesAtMostSoMany();
        roomWhenTheHourIsOver();
        roomZero();
        neverMoreThanSixty();
        roomOfEachHourCounts();
        holdForEachUnitInEachHour();
        worthWhenTheLastIsOver();
        worthTies();
        spreadTies();
        farBelowAllThatIsCounted();
        noLawHasIt();
        theLatestToldCounts();
        twelveAtMost();
        overOrNot();
        kindZero();
        kindOne();
        kindTwo();
        kindThree();
        kindFourLess();
        kindFourNoneAhead();
        kindFourAheadOnly();
        steepestPrices();
        buyOrSellOrNeither();
        Check.end();
    }

    private static void price(String what, StoreSlopes x, int h, int want) {
        Check.due(what + ": price of " + h, x.hour(h, 0), want + 10000);
    }

    private static StoreSlopes priced(int first, int second) {
        StoreSlopes x = new StoreSlopes();
        x.law(0, 0, 0, first, 0);
        x.law(1, 1, 0, second, 0);
        return x;
    }

    // ---- the store

    private static void someOfTheFirstMayBeOver() {
        StoreSlopes x = new StoreSlopes();
        x.store(0, 0);
        for (int over = 0; over < 24; over++) {
            Check.due("hours over", x.told(0), over);
            Check.due("the last that is over", over == 0 ? NONE : x.hour(over - 1, 3), NONE);
            Check.due("the first that is not", x.hour(over, 3), 0);
            Check.due("the last of all", x.hour(23, 4), 100);
            x.done();
        }
        Check.due("all are over", x.told(0), 24);
        Check.due("hour 23 is over", x.hour(23, 3), NONE);
        Check.due("15 all are over", x.done(), NOT);
        Check.due("all are over yet", x.told(0), 24);
    }

    private static void takesAtMostSoMany() {
        for (int takes = 0; takes <= 9; takes++) {
            StoreSlopes x = priced(2, 10);
            Check.due("7 takes " + takes, x.store(takes, 9), M + 8 * takes);
            Check.due("takes " + takes + ": bought in hour 0", x.hour(0, 4), 100 + takes);
            Check.due("takes " + takes + ": bought in all", x.told(10), takes);
        }
    }

    private static void givesAtMostSoMany() {
        for (int gives = 0; gives <= 9; gives++) {
            StoreSlopes x = priced(2, 10);
            Check.due("7 gives " + gives, x.store(9, gives), M + 8 * gives);
            Check.due("gives " + gives + ": sold in hour 1", x.hour(1, 4), 100 - gives);
            Check.due("gives " + gives + ": sold in all", x.told(11), gives);
        }
    }

    private static void roomWhenTheHourIsOver() {
        for (int gives = 0; gives <= 9; gives += 3) {
            for (int room = 0; room + gives < 60; room += 5) {
                StoreSlopes x = new StoreSlopes();
                x.store(1, gives);
                x.room(0, 0, room);
                x.room(1, 23, 60);
                String what = "room " + room + ", gives " + gives;
                Check.due(what + ": what can be given may lie there first", x.begin(room + gives), M);
                Check.due(what + ": one more may not", x.begin(room + gives + 1), NONE);
                Check.due(what + ": value", x.value(0, room + gives), M);
                Check.due(what + ": value of one more", x.value(0, room + gives + 1), NONE);
                Check.due(what + ": margin with one less", room + gives == 0 ? M : x.margin(0, room + gives - 1), M);
                Check.due(what + ": margin, one of both has none", x.margin(0, room + gives), NONE);
                Check.due(what + ": margin, both have none", x.margin(0, Math.min(59, room + gives + 1)), NONE);
            }
        }
    }

    private static void roomZero() {
        StoreSlopes x = priced(-5, 10);
        x.room(0, 0, 0);
        Check.due("8 room 0: nothing is bought", x.hour(0, 4), 100);
        Check.due("8 room 0: best", x.told(8), M);
        x.begin(1);
        Check.due("8 room 0: what lies there must go", x.hour(0, 4), 99);
        Check.due("8 room 0: though it costs 5", x.told(8), M - 5);
        Check.due("8 room 0: and can't without the hour", x.without(0), NONE);
    }

    private static void neverMoreThanSixty() {
        StoreSlopes x = new StoreSlopes();
        x.room(0, 23, 60);
        x.law(0, 23, 0, -9, 0);
        x.law(22, 23, 0, 5, 0);
        Check.due("store 9 0", x.store(9, 0), M + 60 * 9);
        Check.due("bought up to 60", x.told(10), 60);
        Check.due("the level at the end", x.told(12), 60);
        Check.due("value 0 of 60: nothing more can be bought", x.value(0, 60), M);
        Check.due("value 0 of 59", x.value(0, 59), M + 9);
        Check.due("margin 0 of 59", x.margin(0, 59), M - 9);
        Check.due("18 room 60 at most", x.gain(0), 0);
        Check.due("begin 60", x.begin(60), M);
        Check.due("nothing bought", x.told(10), 0);
        x.store(9, 9);
        Check.due("nine in each of the two hours at 5", x.value(21, 60), M + 18 * 5);
    }

    private static void roomOfEachHourCounts() {
        StoreSlopes x = new StoreSlopes();
        x.store(9, 2);
        x.room(0, 23, 60);
        x.room(5, 5, 3);
        // Two in each of the hours 0 to 5 may go: 3 and 12 and no more.
        Check.due("begin 15", x.begin(15), M);
        Check.due("begin 16", x.begin(16), NONE);
        Check.due("value 5 of 5", x.value(5, 5), M);
        Check.due("value 5 of 6", x.value(5, 6), NONE);
        Check.due("value 4 of 7", x.value(4, 7), M);
        Check.due("value 4 of 8", x.value(4, 8), NONE);
        Check.due("value 6 of 60", x.value(6, 60), M);
        x.room(23, 23, 0);
        Check.due("value 23 of 2", x.value(23, 2), M);
        Check.due("value 23 of 3", x.value(23, 3), NONE);
        Check.due("value 24 of 60", x.value(24, 60), M);
    }

    private static void holdForEachUnitInEachHour() {
        StoreSlopes x = new StoreSlopes();
        x.store(0, 0);
        for (int cost = 0; cost <= 9; cost++) {
            x.begin(0);
            Check.due("10 hold " + cost + " for none", x.hold(cost), M);
            Check.due("10 hold " + cost + " for 7", x.begin(7), M - 24 * cost * 7);
        }
        Check.due("10 in the last hour too", x.value(23, 1), M - 9);
        Check.due("10 not behind it", x.value(24, 1), M);
        x.store(0, 1);
        Check.due("10 not for what goes in the hour", x.value(0, 1), M);
    }

    private static void worthWhenTheLastIsOver() {
        for (int worth = -99; worth <= 99; worth += 33) {
            StoreSlopes x = new StoreSlopes();
            x.store(0, 0);
            x.begin(10);
            Check.due("11 worth " + worth, x.worth(worth), M + 10 * worth);
            for (int h = 0; h <= 24; h += 8) Check.due("11 worth " + worth + ": value " + h, x.value(h, 10), M + 10 * worth);
            Check.due("11 worth " + worth + ": value 24 of none", x.value(24, 0), M);
            Check.due("11 worth " + worth + ": value 24 of 60", x.value(24, 60), M + 60 * worth);
            for (int level = 0; level < 60; level++) Check.due("11 margin 24 " + level, x.margin(24, level), M + worth);
        }
    }

    private static void worthTies() {
        StoreSlopes x = new StoreSlopes();
        x.law(0, 23, 0, 8, 0);
        x.begin(1);
        x.worth(7);
        Check.due("worth one less than the price: sold", x.told(11), 1);
        x.worth(8);
        Check.due("worth as the price: sold, the level is lower", x.told(12), 0);
        Check.due("worth as the price: nothing bought", x.told(10), 0);
        x.worth(9);
        Check.due("worth one more than the price: as many as may lie there", x.told(12), 10);
        // The one that lies there goes first and is bought again later: as much is got, and the levels are lower.
        Check.due("worth one more: ten are bought", x.told(10), 10);
        Check.due("worth one more: the one goes", x.hour(0, 4), 99);
        Check.due("worth one more: and bought late", x.hour(13, 4), 100);
        Check.due("worth one more: in the last ten hours", x.hour(14, 4), 101);
    }

    private static void spreadTies() {
        StoreSlopes x = priced(2, 10);
        Check.due("12 spread 7", x.spread(7), M + 1);
        Check.due("12 spread 7: one is bought", x.told(10), 1);
        Check.due("12 spread 8: nothing is got by it", x.spread(8), M);
        Check.due("12 spread 8: nothing is bought", x.told(10), 0);
        StoreSlopes y = priced(-25, 25);
        Check.due("12 spread 50", y.spread(50), M + 25);
        Check.due("12 spread 49", y.spread(49), M + 25);
        // What was paid for taking is kept: giving it away would cost 50 less 25.
        Check.due("12 spread 50: it stays", y.told(12), 1);
        Check.due("12 spread 49: nothing sold", y.told(11), 0);
        y.spread(24);
        Check.due("12 spread 24: sold", y.hour(1, 4), 99);
        y.spread(25);
        Check.due("12 spread 25: sold for nothing, the level is lower", y.hour(1, 4), 99);
    }

    private static void farBelowAllThatIsCounted() {
        StoreSlopes x = new StoreSlopes();
        x.room(0, 23, 60);
        x.store(9, 0);
        x.hold(9);
        x.worth(-99);
        Check.due("all that lies there costs", x.begin(60), M - 24 * 9 * 60 - 99 * 60);
        StoreSlopes y = new StoreSlopes();
        y.law(0, 23, 3, -99, -9);
        y.spread(50);
        y.room(0, 23, 60);
        y.room(0, 0, 51);
        y.store(0, 9);
        // Nine must be given away in hour 0 at -306 less 50.
        Check.due("what must be given away costs", y.begin(60), M - 9 * 356);
        StoreSlopes z = new StoreSlopes();
        z.law(0, 23, 3, 99, 9);
        z.store(9, 9);
        z.room(0, 23, 60);
        z.worth(99);
        Check.due("the dearest is far below 1000000", z.begin(60), z.value(0, 60));
        Check.holds("the dearest is more than all sold at 99", z.told(8) > M + 60 * 99 && z.told(8) < 2 * M);
    }

    // ---- prices

    private static void noLawHasIt() {
        StoreSlopes x = new StoreSlopes();
        for (int h = 0; h < 24; h++) {
            price("0, if none has", x, h, 0);
            Check.due("3 no law of " + h, x.hour(h, 2), NONE);
        }
        x.law(5, 7, 0, 3, 0);
        for (int h = 4; h <= 8; h++) {
            boolean has = h != 4 && h != 8;
            price("from F to U", x, h, has ? 3 : 0);
            Check.due("3 the law of " + h, x.hour(h, 2), has ? 0 : NONE);
        }
        x.drop(0);
        for (int h = 4; h <= 8; h++) price("0, if it is dropped", x, h, 0);
    }

    private static void theLatestToldCounts() {
        StoreSlopes x = new StoreSlopes();
        x.law(0, 23, 0, 1, 0);
        x.law(23, 23, 0, 2, 0);
        x.law(0, 0, 0, 3, 0);
        int[] of = {3, 1, 2};
        int[] hours = {0, 12, 23};
        for (int i = 0; i < 3; i++) price("the latest told", x, hours[i], of[i]);
        Check.due("4 hours by the first", x.lawAt(0, 5), 22);
        Check.due("4 hours by the second", x.lawAt(1, 5), 1);
        x.law(0, 23, 0, 4, 0);
        for (int h = 0; h < 24; h++) Check.due("all have the latest", x.hour(h, 2), 3);
        for (int k = 0; k < 3; k++) Check.due("4 no hour has " + k, x.lawAt(k, 5), 0);
        Check.due("4 all hours have 3", x.lawAt(3, 5), 24);
        x.drop(3);
        Check.due("14 the latest dropped", x.hour(23, 2), 1);
        x.drop(0);
        Check.due("14 later ones have one number less", x.hour(23, 2), 0);
        Check.due("14 later ones have one number less", x.hour(0, 2), 1);
        Check.due("14 the first dropped", x.hour(12, 2), NONE);
    }

    private static void twelveAtMost() {
        StoreSlopes x = new StoreSlopes();
        for (int i = 0; i < 12; i++) {
            Check.due("4 number " + i + " is not there yet", x.lawAt(i, 0), UNKNOWN);
            Check.due("13 law " + i, x.law(i, 23, 0, 0, 0), M);
            Check.due("13 has number " + i, x.lawAt(i, 0), i);
            Check.due("2 laws", x.told(7), i + 1);
        }
        Check.due("13 the thirteenth", x.law(0, 0, 0, 0, 0), FULL);
        Check.due("13 the thirteenth of hours that none has", x.law(23, 23, 4, 99, 9), FULL);
        Check.due("14 the last of twelve", x.drop(11), M);
        Check.due("13 then one more", x.law(7, 7, 0, 0, 0), M);
        Check.due("13 has number 11", x.lawAt(11, 0), 7);
        Check.due("13 and is the last", x.law(0, 0, 0, 0, 0), FULL);
        Check.due("14 the first of twelve", x.drop(0), M);
        for (int i = 0; i < 10; i++) Check.due("14 number " + i + " then", x.lawAt(i, 0), i + 1);
        Check.due("14 number 10 then", x.lawAt(10, 0), 7);
        Check.due("14 number 11 then", x.lawAt(11, 0), UNKNOWN);
        x.undo(1);
        Check.due("17 full again", x.law(0, 0, 0, 0, 0), FULL);
    }

    private static void overOrNot() {
        StoreSlopes x = new StoreSlopes();
        for (int i = 0; i < 24; i++) x.done();
        Check.due("13 a law for hours that are over", x.law(0, 23, 0, 9, 0), M);
        for (int h = 0; h < 24; h++) price("over", x, h, 9);
        Check.due("4 hours that are over count", x.lawAt(0, 5), 24);
        Check.due("8 room of hours that are over", x.room(0, 23, 2), M);
        Check.due("3 room of an hour that is over", x.hour(0, 1), 2);
    }

    private static void kindZero() {
        StoreSlopes x = new StoreSlopes();
        x.law(0, 23, 0, -99, 9);
        for (int h = 0; h < 24; h++) price("kind 0, b is nothing there", x, h, -99);
    }

    private static void kindOne() {
        StoreSlopes x = new StoreSlopes();
        x.law(4, 8, 1, 10, -9);
        for (int h = 4; h <= 8; h++) price("kind 1", x, h, 10 - 9 * (h - 4));
        x.law(9, 9, 1, 10, -9);
        price("kind 1 of one hour is A", x, 9, 10);
        price("kind 1 ahead of F", x, 3, 0);
        price("kind 1 behind U", x, 10, 0);
    }

    private static void kindTwo() {
        for (int f = 0; f < 2; f++) {
            StoreSlopes x = new StoreSlopes();
            x.law(f, 23, 2, 50, -7);
            for (int h = f; h < 24; h++) price("kind 2 from " + f, x, h, (h - f) % 2 == 0 ? 50 : -7);
        }
        StoreSlopes y = new StoreSlopes();
        y.law(23, 23, 2, 50, -7);
        price("kind 2 of one hour is A", y, 23, 50);
    }

    private static void kindThree() {
        StoreSlopes x = new StoreSlopes();
        x.law(2, 6, 3, 5, 9);
        int[] odd = {41, 23, 5, 23, 41};
        for (int i = 0; i < 5; i++) price("kind 3, the middle is an hour", x, 2 + i, odd[i]);
        x.law(10, 13, 3, 5, -9);
        int[] even = {-22, -4, -4, -22};
        for (int i = 0; i < 4; i++) price("kind 3, the middle is between", x, 10 + i, even[i]);
        x.law(0, 0, 3, 5, 9);
        price("kind 3 of hour 0 alone is A", x, 0, 5);
        x.law(23, 23, 3, 5, 9);
        price("kind 3 of hour 23 alone is A", x, 23, 5);
        x.law(22, 23, 3, 5, 9);
        price("kind 3 of two", x, 22, 14);
        price("kind 3 of two", x, 23, 14);
    }

    private static void kindFourLess() {
        int[] a = {19, 20, 21};
        int[] want = {19, 27, 27};
        for (int i = 0; i < 3; i++) {
            StoreSlopes x = new StoreSlopes();
            x.law(0, 23, 0, 20, 0);
            x.law(3, 5, 4, a[i], 7);
            price("kind 4, " + a[i] + " at 20", x, 3, want[i]);
            price("kind 4, " + a[i] + " at 20", x, 5, want[i]);
            price("kind 4 ahead of F", x, 2, 20);
            price("kind 4 behind U", x, 6, 20);
            Check.due("kind 4 has the hour either way", x.hour(4, 2), 1);
            Check.due("4 hours by kind 4", x.lawAt(1, 5), 3);
        }
    }

    private static void kindFourNoneAhead() {
        int[] a = {-1, 0, 1};
        int[] want = {-1, -9, -9};
        for (int i = 0; i < 3; i++) {
            StoreSlopes x = new StoreSlopes();
            x.law(0, 23, 4, a[i], -9);
            price("kind 4, none told ahead, a " + a[i], x, 0, want[i]);
            price("kind 4, none told ahead, a " + a[i], x, 23, want[i]);
        }
    }

    private static void kindFourAheadOnly() {
        StoreSlopes x = new StoreSlopes();
        x.law(0, 5, 4, 50, 3);
        x.law(0, 0, 0, 80, 0);
        x.law(0, 5, 4, 50, 3);
        price("kind 4 over 80", x, 0, 50);
        price("kind 4 over kind 4", x, 1, 6);
        x.drop(0);
        price("kind 4, the one ahead dropped", x, 1, 3);
        x.drop(0);
        price("kind 4, all ahead dropped", x, 0, 3);
        StoreSlopes y = new StoreSlopes();
        for (int i = 0; i < 12; i++) {
            y.law(0, 0, 4, 99, 9);
            // The eleventh makes 99; by the twelfth 99 is not less than 99.
            price("kind 4 upon kind 4, " + (i + 1), y, 0, 9 * (i + 1));
        }
        y.drop(0);
        y.law(0, 0, 0, 99, 0);
        y.drop(0);
        y.law(0, 0, 4, 99, 9);
        price("kind 4, as much as ahead", y, 0, 108);
        y.drop(0);
        y.law(0, 0, 4, 99, 9);
        price("kind 4, less than ahead", y, 0, 99);
    }

    private static void steepestPrices() {
        StoreSlopes x = new StoreSlopes();
        x.law(0, 23, 1, 99, 9);
        price("the dearest", x, 23, 306);
        x.law(0, 23, 1, -99, -9);
        price("the cheapest of kind 1", x, 23, -306);
        for (int i = 1; i <= 10; i++) {
            x.law(23, 23, 4, -99, -9);
            price("and cheaper by kind 4", x, 23, -306 - 9 * i);
        }
        StoreSlopes y = new StoreSlopes();
        y.law(0, 23, 3, 99, 9);
        price("the dearest of kind 3, at F", y, 0, 306);
        price("the dearest of kind 3, at U", y, 23, 306);
    }

    private static void buyOrSellOrNeither() {
        StoreSlopes x = new StoreSlopes();
        x.law(0, 23, 0, -9, 0);
        x.store(9, 9);
        x.room(0, 23, 5);
        // At -9 one would like to take and give at once: it can only be taken till the store is full.
        Check.due("no more than is put in the store", x.told(8), M + 45);
        Check.due("bought once", x.told(10), 5);
        Check.due("nothing sold", x.told(11), 0);
    }
}
