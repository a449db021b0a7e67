/**
 * REFUSALS: of several the first in the order UNKNOWN, OUTSIDE, NOT, FULL; what is refused changes nothing,
 * and what is asked or read changes nothing.
 */
public final class RefusalTests {
    private static final int NONE = Check.NONE, UNKNOWN = Check.UNKNOWN, OUTSIDE = Check.OUTSIDE, NOT = Check.NOT, FULL = Check.FULL;
    private static final int[] FAR = {Check.LOW, -1, 24, Check.HIGH};

    interface Call {
        int on(StoreSlopes x);
    }

    interface Made {
        StoreSlopes ready();
    }

    public static void main(String[] args) {
        constants();
        unknownAheadOfOutside();
        unknownAheadOfFull();
        outsideAheadOfFull();
        outsideAheadOfNot();
        unknownAheadOfNot();
        refusalsAheadOfNone();
        refusedChangesNothing();
        readAndAskedChangeNothing();
        Check.end();
    }

    private static void constants() {
        Check.due("NONE", StoreSlopes.NONE, -1);
        Check.due("UNKNOWN", StoreSlopes.UNKNOWN, -1000000001);
        Check.due("OUTSIDE", StoreSlopes.OUTSIDE, -1000000002);
        Check.due("NOT", StoreSlopes.NOT, -1000000003);
        Check.due("FULL", StoreSlopes.FULL, -1000000004);
    }

    // ---- objects in the states that the refusals are about

    /** Laws of all sorts, an image kept, hours over, deeds that can be undone. */
    private static StoreSlopes busy() {
        StoreSlopes x = new StoreSlopes();
        x.seed(163);
        x.drift(3);
        x.store(3, 2);
        x.room(5, 9, 4);
        x.hold(1);
        x.keep(1);
        x.worth(7);
        x.spread(2);
        x.begin(3);
        x.done();
        x.law(2, 20, 1, -20, 3);
        x.law(0, 23, 4, 30, -2);
        x.drop(1);
        x.done();
        return x;
    }

    private static StoreSlopes twelveLaws() {
        StoreSlopes x = new StoreSlopes();
        x.seed(1);
        x.drift(12);
        return x;
    }

    private static StoreSlopes noPlan() {
        StoreSlopes x = busy();
        x.begin(60);
        return x;
    }

    private static StoreSlopes allOver() {
        StoreSlopes x = new StoreSlopes();
        x.law(0, 20, 3, 5, 2);
        x.worth(4);
        for (int i = 0; i < 24; i++) x.done();
        return x;
    }

    private static StoreSlopes fresh() {
        return new StoreSlopes();
    }

    // ---- of several the first

    private static void unknownAheadOfOutside() {
        for (int h : FAR) {
            StoreSlopes x = busy();
            int past = h == 24 ? 25 : h;
            Check.due("3 hour " + h + " 7", x.hour(h, 7), UNKNOWN);
            Check.due("3 hour " + h + " -1", x.hour(h, -1), UNKNOWN);
            Check.due("4 lawAt " + h + " 6", x.lawAt(h, 6), UNKNOWN);
            Check.due("4 lawAt " + h + " -1", x.lawAt(h, -1), UNKNOWN);
            Check.due("5 value " + past + " 61", x.value(past, 61), UNKNOWN);
            Check.due("5 value " + past + " -1", x.value(past, -1), UNKNOWN);
            Check.due("6 margin " + past + " 60", x.margin(past, 60), UNKNOWN);
            Check.due("6 margin " + past + " -1", x.margin(past, -1), UNKNOWN);
            Check.due("8 room " + h + " 5 61", x.room(h, 5, 61), UNKNOWN);
            Check.due("8 room " + h + " 5 -1", x.room(h, 5, -1), UNKNOWN);
            Check.due("8 room 5 " + h + " 61", x.room(5, h, 61), UNKNOWN);
            Check.due("8 room 5 " + h + " -1", x.room(5, h, -1), UNKNOWN);
            Check.due("20 with " + h + " 1000", x.with(h, 1000), UNKNOWN);
            Check.due("20 with " + h + " -1000", x.with(h, -1000), UNKNOWN);
            lawWithUnknownHour(x, h);
        }
        Check.due("4 lawAt of the first number that no law has", busy().lawAt(4, 6), UNKNOWN);
    }

    private static void lawWithUnknownHour(StoreSlopes x, int h) {
        int[][] outside = {{5, 0, 0}, {-1, 0, 0}, {0, 100, 0}, {0, -100, 0}, {0, 0, 10}, {0, 0, -10}, {9, 999, 99}};
        for (int[] o : outside) {
            Check.due("13 law " + h + " 5, outside too", x.law(h, 5, o[0], o[1], o[2]), UNKNOWN);
            Check.due("13 law 5 " + h + ", outside too", x.law(5, h, o[0], o[1], o[2]), UNKNOWN);
        }
        Check.due("13 law " + h + " and above u", x.law(h, 0, 0, 0, 0), UNKNOWN);
        Check.due("13 law 23 to " + h, x.law(23, h, 0, 0, 0), UNKNOWN);
    }

    private static void unknownAheadOfFull() {
        StoreSlopes x = twelveLaws();
        Check.due("13 law full", x.law(0, 23, 0, 0, 0), FULL);
        for (int h : FAR) {
            Check.due("13 law " + h + " 23, full too", x.law(h, 23, 0, 0, 0), UNKNOWN);
            Check.due("13 law 0 " + h + ", full too", x.law(0, h, 0, 0, 0), UNKNOWN);
            Check.due("13 law " + h + ", outside and full too", x.law(h, h, 5, 100, 10), UNKNOWN);
        }
    }

    private static void outsideAheadOfFull() {
        StoreSlopes x = twelveLaws();
        Check.due("13 f above u, full too", x.law(1, 0, 0, 0, 0), OUTSIDE);
        for (int kind : new int[] {-1, 5}) Check.due("13 kind " + kind + ", full too", x.law(0, 0, kind, 0, 0), OUTSIDE);
        for (int a : new int[] {-100, 100}) Check.due("13 a " + a + ", full too", x.law(0, 0, 0, a, 0), OUTSIDE);
        for (int b : new int[] {-10, 10}) Check.due("13 b " + b + ", full too", x.law(0, 0, 0, 0, b), OUTSIDE);
        Check.due("16 drift 13 with 12 laws", x.drift(13), OUTSIDE);
        Check.due("16 drift 0 with 12 laws", x.drift(0), OUTSIDE);
    }

    private static void outsideAheadOfNot() {
        for (int n : new int[] {Check.LOW, -1, 0, 41, 42, Check.HIGH}) {
            Check.due("17 undo " + n + " with nothing to undo", fresh().undo(n), OUTSIDE);
            Check.due("17 undo " + n + " with some", busy().undo(n), OUTSIDE);
        }
        Check.due("17 undo 40 with nothing to undo", fresh().undo(40), NOT);
        Check.due("17 undo 1 with nothing to undo", fresh().undo(1), NOT);
    }

    private static void unknownAheadOfNot() {
        for (int i : new int[] {Check.LOW, -1, 2, Check.HIGH}) Check.due("23 goBack " + i + " with none kept", fresh().goBack(i), UNKNOWN);
    }

    private static void refusalsAheadOfNone() {
        StoreSlopes x = noPlan();
        Check.due("there is no plan", x.told(8), NONE);
        for (int h : FAR) {
            Check.due("3 hour " + h + " 3 without plan", x.hour(h, 3), UNKNOWN);
            Check.due("19 without " + h + " without plan", x.without(h), UNKNOWN);
            Check.due("20 with " + h + " without plan", x.with(h, 0), UNKNOWN);
        }
        for (int what : new int[] {-1, 7}) {
            Check.due("3 hour 5 " + what + " without plan", x.hour(5, what), OUTSIDE);
            Check.due("3 hour 0 " + what + ", over", x.hour(0, what), OUTSIDE);
        }
        for (int what : new int[] {-1, 4}) Check.due("18 gain " + what + " without plan", x.gain(what), OUTSIDE);
        for (int price : new int[] {-1000, 1000}) {
            Check.due("20 with 5 " + price + " without plan", x.with(5, price), OUTSIDE);
            Check.due("20 with 0 " + price + ", over", x.with(0, price), OUTSIDE);
        }
        Check.due("5 value 0 61 above a level without plan", x.value(0, 61), OUTSIDE);
        Check.due("6 margin 0 60 above a level without plan", x.margin(0, 60), OUTSIDE);
    }

    // ---- what is refused changes nothing

    private static void refusedChangesNothing() {
        Made[] all = {RefusalTests::fresh, RefusalTests::busy, RefusalTests::noPlan, RefusalTests::allOver};
        Call[] wrong = {
            x -> x.told(14), x -> x.hour(24, 0), x -> x.hour(0, 7), x -> x.lawAt(12, 0), x -> x.value(25, 0),
            x -> x.value(0, 61), x -> x.margin(0, 60), x -> x.store(10, 3), x -> x.store(3, 10), x -> x.store(-1, 3),
            x -> x.store(3, -1), x -> x.room(24, 23, 5), x -> x.room(0, 24, 5), x -> x.room(-1, 23, 5),
            x -> x.room(0, 23, 61), x -> x.room(0, 23, -1), x -> x.begin(61), x -> x.begin(-1), x -> x.hold(10),
            x -> x.hold(-1), x -> x.worth(100), x -> x.worth(-100), x -> x.spread(51), x -> x.spread(-1),
            x -> x.law(0, 24, 0, 5, 0), x -> x.law(-1, 3, 0, 5, 0), x -> x.law(3, 2, 0, 5, 0), x -> x.law(0, 23, 5, 5, 0),
            x -> x.law(0, 23, 0, 100, 0), x -> x.law(0, 23, 0, -100, 0), x -> x.law(0, 23, 2, 5, 10),
            x -> x.law(0, 23, 2, 5, -10), x -> x.drop(12), x -> x.drop(-1), x -> x.drift(0), x -> x.drift(13),
            x -> x.undo(0), x -> x.undo(41), x -> x.undo(40), x -> x.gain(4), x -> x.gain(-1), x -> x.without(24),
            x -> x.with(24, 0), x -> x.with(0, 1000), x -> x.with(0, -1000), x -> x.seed(-1), x -> x.keep(2),
            x -> x.keep(-1), x -> x.goBack(2), x -> x.goBack(0)};
        for (int m = 0; m < all.length; m++) {
            Sight want = Sight.throughAll(all[m].ready());
            for (int w = 0; w < wrong.length; w++) refused("state " + m + ", wrong call " + w, all[m], wrong[w], want);
        }
        Sight full = Sight.throughAll(twelveLaws());
        refused("13 law, full", RefusalTests::twelveLaws, x -> x.law(0, 23, 0, 5, 0), full);
        refused("14 drop 12 of 12", RefusalTests::twelveLaws, x -> x.drop(12), full);
        refused("15 done without plan", RefusalTests::noPlan, x -> x.done(), Sight.throughAll(noPlan()));
        refused("15 done, all over", RefusalTests::allOver, x -> x.done(), Sight.throughAll(allOver()));
        refused("14 drop of the number behind the last", RefusalTests::busy, x -> x.drop(4), Sight.throughAll(busy()));
        int kept = busy().told(13);
        refused("17 undo one too many", RefusalTests::busy, x -> x.undo(kept + 1), Sight.throughAll(busy()));
        driftOfFullChangesNothing();
    }

    private static void refused(String what, Made made, Call call, Sight want) {
        StoreSlopes x = made.ready();
        int answer = call.on(x);
        Check.holds(what + " is refused, not answered by " + answer, Check.isRefusal(answer));
        Sight.throughAll(x).dueAs(what, want);
    }

    private static void driftOfFullChangesNothing() {
        StoreSlopes x = twelveLaws();
        for (int n : new int[] {1, 12}) Check.due("16 drift " + n + " with 12 laws", x.drift(n), 12);
        Sight.throughAll(x).dueAs("16 drift with 12 laws", Sight.throughAll(twelveLaws()));
    }

    // ---- what is asked or read changes nothing

    private static void readAndAskedChangeNothing() {
        Made[] all = {RefusalTests::fresh, RefusalTests::busy, RefusalTests::noPlan, RefusalTests::allOver, RefusalTests::twelveLaws};
        for (int m = 0; m < all.length; m++) {
            Sight want = Sight.throughAll(all[m].ready());
            StoreSlopes asked = all[m].ready();
            for (int i = 0; i < 4; i++) asked.gain(i);
            for (int h = 0; h < 24; h++) asked.without(h);
            Sight.throughAll(asked).dueAs("state " + m + ", gain and without", want);
            StoreSlopes priced = all[m].ready();
            for (int h = 0; h < 24; h++) priced.with(h, h % 2 == 0 ? 999 : -999);
            Sight.throughAll(priced).dueAs("state " + m + ", with", want);
            StoreSlopes looked = all[m].ready();
            for (int h = 23; h >= 0; h--) looked.hour(h, 5);
            Sight.throughAll(looked).dueAs("state " + m + ", DEAR", want);
        }
    }
}
