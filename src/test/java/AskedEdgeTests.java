/** Part 3 of the document's terms: what is asked, draws, what is undone, images, at their boundaries. */
public final class AskedEdgeTests {
    private static final int NONE = Check.NONE, NOT = Check.NOT, M = Check.M;

    public static void main(String[] args) {
        gainRoomSixtyAtMost();
        gainRoomInAllHours();
        gainTakesNineAside();
        gainGivesNineAside();
        gainHoldZeroAside();
        gainWithoutPlan();
        gainOfHoursLeft();
        withoutAnHour();
        withoutNoPlan();
        withAPrice();
        withSpreadToo();
        overIsBestAsItIs();
        dearZero();
        dearAtTies();
        dearMost();
        dearOfEachUnit();
        drawsWrapAround();
        drawsOfTheLastHour();
        drawsTillTwelve();
        drawnAsTold();
        drawsAreDeeds();
        undoneEachDeed();
        undoneFortyAtMost();
        undoneGoesRound();
        seedStaysUndone();
        sinceTheImage();
        imagesKeepAll();
        imagesAreTwo();
        imageIsNotChanged();
        Check.end();
    }

    private static StoreSlopes priced(int first, int second) {
        StoreSlopes x = new StoreSlopes();
        x.law(0, 0, 0, first, 0);
        x.law(1, 1, 0, second, 0);
        return x;
    }

    // ---- asked

    private static void gainRoomSixtyAtMost() {
        StoreSlopes x = new StoreSlopes();
        x.law(0, 20, 0, 5, 0);
        x.law(21, 23, 0, 5, 0);
        x.worth(9);
        x.store(9, 9);
        int[] rooms = {0, 1, 58, 59, 60};
        int[] gains = {4, 4, 4, 4, 0};
        for (int i = 0; i < rooms.length; i++) {
            Check.due("8 room " + rooms[i], x.room(0, 23, rooms[i]), M + 4 * rooms[i]);
            Check.due("18 room " + rooms[i], x.gain(0), gains[i]);
            Check.due("3 room " + rooms[i] + " stays", x.hour(23, 1), rooms[i]);
        }
        x.room(23, 23, 30);
        Check.due("18 60 in all hours but the last", x.gain(0), 4);
        x.room(0, 23, 60);
        x.room(22, 22, 0);
        // Nine can be taken in the last hour, and one more can be brought to it.
        Check.due("2 no room ahead of the last", x.told(8), M + 36);
        Check.due("18 no room ahead of the last", x.gain(0), 4);
    }

    /** Five must lie in every hour to be sold in the last: wherever room is short, one more there is worth 9. */
    private static void gainRoomInAllHours() {
        for (int narrow = 0; narrow < 24; narrow++) {
            StoreSlopes x = new StoreSlopes();
            x.store(0, 0);
            x.begin(5);
            x.room(0, 23, 60);
            x.room(narrow, narrow, 4);
            Check.due("18 no plan, room 4 in " + narrow, x.gain(0), NONE);
            StoreSlopes y = new StoreSlopes();
            y.law(0, 23, 0, 5, 0);
            y.worth(14);
            y.store(0, 1);
            y.begin(5);
            y.room(narrow, narrow, 4);
            Check.due("2 one goes by hour " + narrow, y.told(8), Check.M + 4 * 14 + 5);
            Check.due("18 room 4 in " + narrow, y.gain(0), 9);
        }
    }

    private static void gainTakesNineAside() {
        for (int takes = 0; takes <= 9; takes++) {
            StoreSlopes x = priced(2, 10);
            x.room(0, 23, 60);
            x.store(takes, 9);
            Check.due("18 takes " + takes, x.gain(1), takes < 9 ? 8 : 0);
            Check.due("2 takes " + takes + " stay", x.told(2), takes);
        }
    }

    private static void gainGivesNineAside() {
        for (int gives = 0; gives <= 9; gives++) {
            StoreSlopes x = priced(2, 10);
            x.room(0, 23, 60);
            x.store(9, gives);
            Check.due("18 gives " + gives, x.gain(2), gives < 9 ? 8 : 0);
            Check.due("2 gives " + gives + " stay", x.told(3), gives);
        }
    }

    private static void gainHoldZeroAside() {
        StoreSlopes x = new StoreSlopes();
        x.store(0, 0);
        x.begin(3);
        for (int cost = 0; cost <= 9; cost++) {
            x.hold(cost);
            Check.due("18 hold " + cost, x.gain(3), cost == 0 ? 0 : 24 * 3);
            Check.due("2 hold " + cost + " stays", x.told(4), cost);
        }
    }

    private static void gainWithoutPlan() {
        StoreSlopes x = new StoreSlopes();
        x.begin(12);
        // With one more of room or of giving there would be one, but as it is there is none.
        for (int what = 0; what < 4; what++) Check.due("18 no plan as it is, " + what, x.gain(what), NONE);
        x.begin(11);
        for (int what = 0; what < 4; what++) Check.due("18 a plan as it is, " + what, x.gain(what), 0);
    }

    private static void gainOfHoursLeft() {
        StoreSlopes x = priced(2, 10);
        Check.due("18 hour 0 is left", x.gain(2), 0);
        x.store(2, 1);
        Check.due("18 two could be sold", x.gain(2), 8);
        x.done();
        x.done();
        for (int what = 0; what < 4; what++) Check.due("18 they are over, " + what, x.gain(what), 0);
        for (int h = 2; h < 24; h++) x.done();
        for (int what = 0; what < 4; what++) Check.due("18 all are over, " + what, x.gain(what), 0);
    }

    private static void withoutAnHour() {
        StoreSlopes x = priced(2, 10);
        int[] hours = {0, 1, 2, 23};
        int[] bests = {0, 0, 8, 8};
        for (int i = 0; i < 4; i++) Check.due("19 without " + hours[i], x.without(hours[i]), M + bests[i]);
        x.law(23, 23, 0, 7, 0);
        Check.due("19 without 1, sold in 23", x.without(1), M + 7);
        Check.due("19 without 23", x.without(23), M + 8);
        x.hold(1);
        // Bought for nothing in 22, for lying there an hour 1.
        Check.due("19 hold is paid for in it too", x.without(1), M + 6);
        x.begin(1);
        // What lies there already costs 1 in hour 0, and is sold in hour 1.
        Check.due("19 without 0, hold is paid", x.without(0), M + 9 + 6);
    }

    private static void withoutNoPlan() {
        StoreSlopes x = new StoreSlopes();
        x.begin(11);
        Check.due("19 without 0 too much lies there", x.without(0), NONE);
        Check.due("19 without 1", x.without(1), M);
        x.room(0, 23, 12);
        Check.due("19 room enough", x.without(0), M);
        x.room(2, 2, 9);
        for (int h = 0; h < 3; h++) Check.due("19 two hours of three are enough, " + h, x.without(h), M);
        x.room(2, 2, 8);
        for (int h = 0; h < 3; h++) Check.due("19 two of three are too few, " + h, x.without(h), NONE);
        Check.due("19 behind it", x.without(3), M);
        x.begin(12);
        for (int h = 0; h < 24; h++) Check.due("19 no plan as it is, " + h, x.without(h), NONE);
    }

    private static void withAPrice() {
        StoreSlopes x = priced(2, 10);
        int[] prices = {-999, -1, 2, 9, 10, 11, 999};
        int[] bests = {1009, 11, 8, 1, 0, 0, 0};
        for (int i = 0; i < prices.length; i++) Check.due("20 with 0 " + prices[i], x.with(0, prices[i]), M + bests[i]);
        int[] at = {-999, -1, 0, 2, 3, 10, 999};
        int[] sold = {999, 1, 0, 0, 1, 8, 997};
        for (int i = 0; i < at.length; i++) Check.due("20 with 1 " + at[i], x.with(1, at[i]), M + sold[i]);
        Check.due("20 with 23 999", x.with(23, 999), M + 8 + 999);
        Check.due("20 with 23 -999", x.with(23, -999), M + 8 + 999);
        Check.due("20 the price is as it was", x.hour(23, 0), 10000);
        for (int h = 0; h < 24; h++) Check.due("20 with its own price, " + h, x.with(h, x.hour(h, 0) - 10000), M + 8);
    }

    private static void withSpreadToo() {
        StoreSlopes x = priced(2, 10);
        x.spread(50);
        Check.due("20 999 less 50, bought for nothing or for 2", x.with(23, 999), M + 949);
        Check.due("20 with 1, less 50 and 2", x.with(1, 53), M + 1);
        Check.due("20 with 1, 52 is not enough", x.with(1, 52), M);
    }

    private static void overIsBestAsItIs() {
        StoreSlopes x = priced(2, 10);
        x.done();
        Check.due("19 over", x.without(0), M + 10);
        Check.due("19 the first that is not", x.without(1), M);
        Check.due("20 over", x.with(0, 999), M + 10);
        Check.due("20 over", x.with(0, -999), M + 10);
        Check.due("20 the first that is not", x.with(1, 999), M + 999);
        x.begin(12);
        Check.due("19 over, no plan", x.without(0), NONE);
        Check.due("20 over, no plan", x.with(0, 5), NONE);
        x.begin(1);
        for (int h = 1; h < 24; h++) x.done();
        x.worth(7);
        x.begin(3);
        for (int h = 0; h < 24; h++) {
            Check.due("19 all over, " + h, x.without(h), M + 21);
            Check.due("20 all over, " + h, x.with(h, -999), M + 21);
        }
    }

    private static void dearZero() {
        StoreSlopes x = priced(10, 10);
        for (int h = 0; h < 24; h++) Check.due("3 dear, nothing is bought in " + h, x.hour(h, 5), 0);
        x.begin(3);
        Check.due("3 dear, sold in 0", x.hour(0, 5), 0);
        x.begin(12);
        Check.due("3 dear, no plan", x.hour(0, 5), NONE);
    }

    private static void dearAtTies() {
        for (int second = 3; second <= 99; second += 32) {
            StoreSlopes x = priced(2, second);
            Check.due("3 dear: as dear as it is sold", x.hour(0, 5), second - 2);
            Check.due("20 then nothing is got by it", x.with(0, second), M);
            Check.due("3 dear of the hour that sells", x.hour(1, 5), 0);
            x.spread(1);
            Check.due("3 dear, less the spread", x.hour(0, 5), second - 3);
            x.hold(1);
            Check.due("3 dear, less what lying costs", x.hour(0, 5), Math.max(0, second - 4));
        }
        StoreSlopes y = priced(2, 9);
        y.law(2, 2, 0, 9, 0);
        y.store(1, 1);
        // Two at 9 can be sold, but only one is there ahead of hour 1: what hour 1 sells hour 0 bought.
        Check.due("3 dear of the first", y.hour(0, 5), 7);
        StoreSlopes z = new StoreSlopes();
        z.law(5, 5, 0, 9, 0);
        // Bought for nothing in hour 4; one more there, and hour 3 is taken.
        Check.due("3 dear: another hour is as cheap", z.hour(4, 5), 1);
        Check.due("3 dear of the other", z.hour(3, 5), 0);
    }

    private static void dearMost() {
        StoreSlopes x = new StoreSlopes();
        x.law(0, 23, 3, -99, -9);
        x.law(1, 23, 3, 99, 9);
        for (int i = 0; i < 10; i++) x.law(0, 0, 4, -99, -9);
        // Bought at -99 - 207 - 90, sold an hour later at 99 + 198. Prices lie between -405 and 306: 999 is never reached.
        Check.due("the cheapest", x.hour(0, 0), 10000 - 396);
        Check.due("the dearest", x.hour(1, 0), 10000 + 297);
        Check.due("3 dear", x.hour(0, 5), 693);
        Check.due("20 there the price is that of selling", x.with(0, 297), x.without(0));
        Check.holds("20 one less is not yet", x.with(0, 296) > x.without(0));
    }

    private static void dearOfEachUnit() {
        StoreSlopes x = new StoreSlopes();
        x.law(0, 0, 0, 1, 0);
        x.law(1, 1, 0, 30, 0);
        x.law(2, 2, 0, 50, 0);
        x.store(2, 1);
        // One is sold at 30, one at 50; nothing is bought only when the dearest does not pay, but hour 1 can sell
        // just what hour 0 bought, while hour 2 could be fed at 30.
        Check.due("3 bought", x.hour(0, 4), 102);
        Check.due("2 best", x.told(8), M + 78);
        Check.due("3 dear: at 30 hour 1 buys as well", x.hour(0, 5), 29);
        x.law(1, 1, 0, 49, 0);
        Check.due("3 dear: at 49", x.hour(0, 5), 48);
        x.law(1, 1, 0, 60, 0);
        Check.due("3 dear: at 60, sold in hour 1", x.hour(0, 5), 59);
    }

    // ---- draws

    private static long[] drawn(long seed, int[] of) {
        long[] got = new long[of.length + 1];
        for (int i = 0; i < of.length; i++) {
            // Parts below 2 to the 31 each, so nothing is lost of the product in a long.
            seed = (seed * 1103515245L + 12345L) % 2147483648L;
            got[i] = seed / 65536L % of[i];
        }
        got[of.length] = seed;
        return got;
    }

    private static long[] lawDrawn(long seed) {
        int f = (int) drawn(seed, new int[] {24})[0];
        return drawn(seed, new int[] {24, 24 - f, 5, 100, 19});
    }

    private static void lawIsAsDrawn(String what, StoreSlopes x, int k, long[] law) {
        Check.due(what + ": F", x.lawAt(k, 0), (int) law[0]);
        Check.due(what + ": U", x.lawAt(k, 1), (int) (law[0] + law[1]));
        Check.due(what + ": KIND", x.lawAt(k, 2), (int) law[2]);
        Check.due(what + ": A", x.lawAt(k, 3), (int) law[3] + 100);
        Check.due(what + ": B", x.lawAt(k, 4), (int) law[4] - 9 + 10);
    }

    private static void drawsWrapAround() {
        for (int seed : new int[] {0, 1, 2, 65535, 65536, 1073741824, 2147483646, 2147483647}) {
            StoreSlopes x = new StoreSlopes();
            x.seed(seed);
            Check.due("16 drift 1", x.drift(1), 1);
            long[] law = lawDrawn(seed);
            lawIsAsDrawn("16 seed " + seed, x, 0, law);
            Check.due("16 seed " + seed + " becomes", x.seed(0), (int) law[5]);
        }
    }

    private static void drawsOfTheLastHour() {
        int found = 0;
        for (int seed = 0; found < 5 && seed < 5000; seed++) {
            long[] law = lawDrawn(seed);
            if (law[0] != 23) continue;
            found++;
            StoreSlopes x = new StoreSlopes();
            x.seed(seed);
            x.drift(2);
            // Of 24 less 23 there is one number, and it is drawn all the same.
            lawIsAsDrawn("16 F 23", x, 0, law);
            Check.due("16 F 23: U", x.lawAt(0, 1), 23);
            lawIsAsDrawn("16 behind F 23", x, 1, lawDrawn(law[5]));
        }
        Check.due("16 seeds with F 23", found, 5);
        edgeDraws();
    }

    /** Each number of a law drawn at its least and at its most. */
    private static void edgeDraws() {
        int[] most = {23, 23, 4, 99, 18};
        for (int part = 0; part < 5; part++) {
            for (int end = 0; end < 2; end++) {
                int seed = 0;
                while (seed < 100000 && lawDrawn(seed)[part] != (end == 0 ? 0 : most[part])) seed++;
                Check.holds("16 part " + part + " at its end is drawn by some seed", seed < 100000);
                StoreSlopes x = new StoreSlopes();
                x.seed(seed);
                x.drift(1);
                lawIsAsDrawn("16 part " + part + " at its end, seed " + seed, x, 0, lawDrawn(seed));
            }
        }
    }

    private static void drawsTillTwelve() {
        for (int laws = 0; laws <= 12; laws++) {
            for (int n : new int[] {1, 2, 12}) {
                StoreSlopes x = new StoreSlopes();
                for (int i = 0; i < laws; i++) x.law(0, 0, 0, 0, 0);
                x.seed(4);
                int told = Math.min(n, 12 - laws);
                Check.due("16 drift " + n + " at " + laws, x.drift(n), laws + told);
                Check.due("2 laws then", x.told(7), laws + told);
                Check.due("2 deeds then", x.told(13), laws + told);
                long seed = 4;
                for (int i = 0; i < told; i++) {
                    long[] law = lawDrawn(seed);
                    lawIsAsDrawn("16 law " + (laws + i), x, laws + i, law);
                    seed = law[5];
                }
                Check.due("16 no draw for those that were not told", x.seed(0), (int) seed);
            }
        }
    }

    /** A law by draws is a law like those that are told: the same is so then. */
    private static void drawnAsTold() {
        for (int n = 1; n <= 12; n++) {
            StoreSlopes x = new StoreSlopes();
            StoreSlopes y = new StoreSlopes();
            x.seed(40 + n);
            x.drift(n);
            long seed = 40 + n;
            for (int i = 0; i < n; i++) {
                long[] law = lawDrawn(seed);
                y.law((int) law[0], (int) (law[0] + law[1]), (int) law[2], (int) law[3], (int) law[4] - 9);
                seed = law[5];
            }
            Sight.of(x).dueAs("16 drift " + n, Sight.of(y));
        }
    }

    private static void drawsAreDeeds() {
        StoreSlopes x = new StoreSlopes();
        x.drift(12);
        for (int left = 11; left >= 0; left--) {
            Check.due("17 a law by draws undone", x.undo(1), left);
            Check.due("2 laws left", x.told(7), left);
        }
        Check.due("17 none is left", x.undo(1), NOT);
    }

    // ---- undone

    private static void undoneEachDeed() {
        StoreSlopes x = new StoreSlopes();
        Sight[] ahead = new Sight[11];
        for (int deed = 0; deed < 11; deed++) {
            StoreSlopes y = new StoreSlopes();
            for (int i = 0; i < deed; i++) doDeed(y, i);
            ahead[deed] = Sight.of(y);
        }
        for (int deed = 0; deed < 11; deed++) {
            StoreSlopes z = new StoreSlopes();
            for (int i = 0; i <= deed; i++) doDeed(z, i);
            Check.due("2 deeds", z.told(13), deed + 1);
            Check.due("17 deed " + deed + " undone", z.undo(1), deed);
            Sight.of(z).dueAs("17 deed " + deed + " undone", ahead[deed]);
        }
        for (int i = 0; i < 11; i++) doDeed(x, i);
        Check.due("17 all of them", x.undo(11), 0);
        Sight.of(x).dueAs("17 all of them", ahead[0]);
    }

    private static void doDeed(StoreSlopes x, int deed) {
        switch (deed) {
            case 0: x.store(4, 3); break;
            case 1: x.room(2, 6, 7); break;
            case 2: x.begin(5); break;
            case 3: x.hold(1); break;
            case 4: x.worth(-8); break;
            case 5: x.spread(3); break;
            case 6: x.law(1, 22, 2, 40, -6); break;
            case 7: x.law(3, 9, 4, 20, 2); break;
            case 8: x.drop(0); break;
            case 9: x.done(); break;
            default: x.drift(1); break;
        }
    }

    private static void undoneFortyAtMost() {
        for (int deeds = 38; deeds <= 42; deeds++) {
            StoreSlopes x = new StoreSlopes();
            for (int i = 1; i <= deeds; i++) x.begin(i);
            int kept = Math.min(40, deeds);
            Check.due("2 how many can be undone of " + deeds, x.told(13), kept);
            Check.due("17 all that are kept", x.undo(kept), 0);
            Check.due("2 start ahead of them", x.told(1), deeds - kept);
            Check.due("17 not one more", x.undo(1), NOT);
        }
        StoreSlopes y = new StoreSlopes();
        for (int i = 1; i <= 35; i++) y.begin(i);
        y.drift(12);
        Check.due("2 35 and 12 are 40", y.told(13), 40);
        Check.due("17 all", y.undo(40), 0);
        Check.due("2 laws", y.told(7), 0);
        Check.due("2 start after the seventh", y.told(1), 7);
    }

    private static void undoneGoesRound() {
        StoreSlopes x = new StoreSlopes();
        int start = 0;
        for (int round = 0; round < 6; round++) {
            for (int i = 0; i < 37; i++) x.begin((start + i + 1) % 61);
            Check.due("2 can be undone, round " + round, x.told(13), Math.min(40, 37 + 3 * round));
            Check.due("17 undo 34, round " + round, x.undo(34), round == 0 ? 3 : 6);
            start = (start + 3) % 61;
            Check.due("2 start, round " + round, x.told(1), start);
        }
    }

    private static void seedStaysUndone() {
        StoreSlopes x = new StoreSlopes();
        x.seed(99);
        x.drift(1);
        int f = x.lawAt(0, 0) * 10000 + x.lawAt(0, 3) * 10 + x.lawAt(0, 2);
        x.undo(1);
        long[] first = lawDrawn(99);
        x.drift(1);
        lawIsAsDrawn("17 the seed stays: other draws", x, 0, lawDrawn(first[5]));
        Check.holds("and another law", f != x.lawAt(0, 0) * 10000 + x.lawAt(0, 3) * 10 + x.lawAt(0, 2));
        x.begin(3);
        x.seed(1234);
        x.undo(1);
        Check.due("21 a seed is not undone", x.seed(0), 1234);
    }

    private static void sinceTheImage() {
        StoreSlopes x = new StoreSlopes();
        x.begin(1);
        x.begin(2);
        x.keep(0);
        Check.due("22 nothing can be undone then", x.told(13), 0);
        Check.due("22 nothing can be undone then", x.undo(1), NOT);
        x.begin(3);
        Check.due("17 since the image", x.told(13), 1);
        Check.due("17 not more than since the image", x.undo(2), NOT);
        Check.due("17 that one", x.undo(1), 0);
        Check.due("2 start", x.told(1), 2);
        x.begin(4);
        x.begin(5);
        Check.due("23 back", x.goBack(0), 1);
        Check.due("23 nothing can be undone then", x.told(13), 0);
        Check.due("23 nothing can be undone then", x.undo(1), NOT);
        x.begin(6);
        Check.due("17 since then", x.undo(1), 0);
        Check.due("2 start", x.told(1), 2);
        for (int i = 0; i < 45; i++) x.begin(i);
        x.keep(1);
        Check.due("22 nothing of 40 either", x.undo(1), NOT);
        x.begin(50);
        Check.due("17 one since", x.undo(1), 0);
        Check.due("2 start", x.told(1), 44);
    }

    // ---- images

    private static StoreSlopes allDeeds() {
        StoreSlopes x = new StoreSlopes();
        x.seed(31);
        for (int i = 0; i < 11; i++) doDeed(x, i);
        return x;
    }

    private static void imagesKeepAll() {
        for (int i = 0; i < 2; i++) {
            StoreSlopes want = allDeeds();
            want.keep(i);
            StoreSlopes x = allDeeds();
            x.keep(i);
            x.goBack(i);
            x.store(0, 9);
            x.room(0, 23, 60);
            x.begin(60);
            x.hold(9);
            x.worth(99);
            x.spread(50);
            x.drop(0);
            x.law(0, 23, 3, 3, 3);
            x.done();
            x.drift(12);
            x.seed(8);
            Check.due("23 back", x.goBack(i), 1);
            Sight.of(x).dueAs("23 as kept in " + i, Sight.of(want));
            Check.due("23 the seed of " + i, x.seed(0), want.seed(0));
        }
    }

    private static void imagesAreTwo() {
        StoreSlopes x = new StoreSlopes();
        x.begin(1);
        x.seed(10);
        x.keep(0);
        Check.due("23 the other was not kept", x.goBack(1), NOT);
        x.begin(2);
        x.seed(20);
        x.keep(1);
        x.begin(3);
        int[] of = {0, 1, 1, 0, 1};
        for (int i : of) {
            Check.due("23 back to " + i, x.goBack(i), 1);
            Check.due("23 start of " + i, x.told(1), i + 1);
            Check.due("23 seed of " + i, x.seed(5), 10 * (i + 1));
        }
        x.begin(7);
        x.keep(0);
        x.goBack(1);
        Check.due("22 the other is as it was", x.told(1), 2);
        x.goBack(0);
        Check.due("22 kept anew", x.told(1), 7);
        Check.due("22 with the seed then", x.seed(0), 5);
    }

    private static void imageIsNotChanged() {
        StoreSlopes x = new StoreSlopes();
        x.law(0, 23, 0, 5, 0);
        x.keep(0);
        x.law(0, 23, 0, 6, 0);
        x.room(0, 23, 1);
        x.undo(2);
        x.drop(0);
        x.goBack(0);
        Check.due("23 laws", x.told(7), 1);
        Check.due("23 price", x.hour(0, 0), 10005);
        Check.due("23 room", x.hour(0, 1), 10);
        x.drop(0);
        x.room(0, 23, 2);
        x.done();
        x.goBack(0);
        Check.due("23 again: laws", x.told(7), 1);
        Check.due("23 again: room", x.hour(23, 1), 10);
        Check.due("23 again: over", x.told(0), 0);
    }
}
