/** For each number that a call takes: every one within its bounds is taken, and none on either side is. */
public final class BoundsTests {
    private static final int UNKNOWN = Check.UNKNOWN, OUTSIDE = Check.OUTSIDE, NOT = Check.NOT;

    interface Call {
        int on(StoreSlopes x, int v);
    }

    interface Made {
        StoreSlopes ready();
    }

    public static void main(String[] args) {
        toldWhat();
        hourAndWhat();
        lawAndWhat();
        valueHourAndLevel();
        marginHourAndLevel();
        takesAndGives();
        roomHoursAndRoom();
        oneNumberDeeds();
        lawNumbers();
        lawSpan();
        dropLaw();
        driftTimes();
        undoTimes();
        gainWhat();
        withoutHour();
        withHourAndPrice();
        seedNumber();
        imageNumbers();
        Check.end();
    }

    /** Each on an object of its own, so that what one does is not in the way of the next. */
    private static void bounds(String what, Made made, Call call, int least, int most, int refusal) {
        for (int v = least; v <= most; v++) {
            int answer = call.on(made.ready(), v);
            Check.holds(what + ": " + v + " is taken, not answered by " + answer, !Check.isRefusal(answer));
        }
        for (int v : new int[] {least - 3, least - 2, least - 1, most + 1, most + 2, most + 3, Check.LOW, Check.HIGH}) {
            Check.due(what + ": " + v, call.on(made.ready(), v), refusal);
        }
    }

    /** The same of a deed; what is taken is read afterwards, what is not leaves what was so. */
    private static void deedBounds(String what, Call call, Call read, int least, int most, int refusal) {
        bounds(what, StoreSlopes::new, call, least, most, refusal);
        for (int v = least; v <= most; v++) {
            StoreSlopes x = new StoreSlopes();
            call.on(x, v);
            Check.due(what + ": " + v + " is so then", read.on(x, v), v);
            Check.due(what + ": " + v + " is a deed", x.told(13), 1);
        }
        int before = read.on(new StoreSlopes(), 0);
        for (int v : new int[] {least - 1, most + 1}) {
            StoreSlopes x = new StoreSlopes();
            call.on(x, v);
            Check.due(what + ": " + v + " leaves what was so", read.on(x, v), before);
            Check.due(what + ": " + v + " is no deed", x.told(13), 0);
        }
    }

    private static StoreSlopes withLaws(int count) {
        StoreSlopes x = new StoreSlopes();
        for (int i = 0; i < count; i++) x.law(i, 23, 0, i, 0);
        return x;
    }

    private static void toldWhat() {
        bounds("2 told what", StoreSlopes::new, (x, v) -> x.told(v), 0, 13, OUTSIDE);
    }

    private static void hourAndWhat() {
        bounds("3 hour h", StoreSlopes::new, (x, v) -> x.hour(v, 0), 0, 23, UNKNOWN);
        for (int h : new int[] {0, 23}) {
            bounds("3 hour what of " + h, StoreSlopes::new, (x, v) -> x.hour(h, v), 0, 6, OUTSIDE);
        }
    }

    private static void lawAndWhat() {
        for (int count : new int[] {0, 1, 2, 11, 12}) {
            bounds("4 lawAt k of " + count, () -> withLaws(count), (x, v) -> x.lawAt(v, 0), 0, count - 1, UNKNOWN);
        }
        for (int k : new int[] {0, 11}) {
            bounds("4 lawAt what of " + k, () -> withLaws(12), (x, v) -> x.lawAt(k, v), 0, 5, OUTSIDE);
        }
    }

    private static void valueHourAndLevel() {
        bounds("5 value h", StoreSlopes::new, (x, v) -> x.value(v, 0), 0, 24, UNKNOWN);
        for (int h : new int[] {0, 23, 24}) {
            bounds("5 value level of " + h, StoreSlopes::new, (x, v) -> x.value(h, v), 0, 60, OUTSIDE);
        }
    }

    private static void marginHourAndLevel() {
        bounds("6 margin h", StoreSlopes::new, (x, v) -> x.margin(v, 0), 0, 24, UNKNOWN);
        for (int h : new int[] {0, 23, 24}) {
            bounds("6 margin level of " + h, StoreSlopes::new, (x, v) -> x.margin(h, v), 0, 59, OUTSIDE);
        }
    }

    private static void takesAndGives() {
        deedBounds("7 store takes", (x, v) -> x.store(v, 1), (x, v) -> x.told(2), 0, 9, OUTSIDE);
        deedBounds("7 store gives", (x, v) -> x.store(1, v), (x, v) -> x.told(3), 0, 9, OUTSIDE);
    }

    private static void roomHoursAndRoom() {
        bounds("8 room f", StoreSlopes::new, (x, v) -> x.room(v, 23, 5), 0, 23, UNKNOWN);
        bounds("8 room u", StoreSlopes::new, (x, v) -> x.room(0, v, 5), 0, 23, UNKNOWN);
        for (int h : new int[] {0, 7, 23}) {
            deedBounds("8 room of hour " + h, (x, v) -> x.room(h, h, v), (x, v) -> x.hour(h, 1), 0, 60, OUTSIDE);
        }
        for (int f = 0; f < 24; f++) {
            for (int u = f; u < 24; u++) roomOfSpan(f, u);
        }
    }

    private static void roomOfSpan(int f, int u) {
        StoreSlopes x = new StoreSlopes();
        x.room(f, u, 3);
        for (int h = 0; h < 24; h++) Check.due("8 room " + f + " to " + u + ": hour " + h, x.hour(h, 1), f <= h && h <= u ? 3 : 10);
    }

    private static void oneNumberDeeds() {
        deedBounds("9 begin", (x, v) -> x.begin(v), (x, v) -> x.told(1), 0, 60, OUTSIDE);
        deedBounds("10 hold", (x, v) -> x.hold(v), (x, v) -> x.told(4), 0, 9, OUTSIDE);
        deedBounds("11 worth", (x, v) -> x.worth(v), (x, v) -> x.told(5) - 100, -99, 99, OUTSIDE);
        deedBounds("12 spread", (x, v) -> x.spread(v), (x, v) -> x.told(6), 0, 50, OUTSIDE);
    }

    private static void lawNumbers() {
        bounds("13 law f", StoreSlopes::new, (x, v) -> x.law(v, 23, 0, 0, 0), 0, 23, UNKNOWN);
        bounds("13 law u", StoreSlopes::new, (x, v) -> x.law(0, v, 0, 0, 0), 0, 23, UNKNOWN);
        bounds("13 law kind", StoreSlopes::new, (x, v) -> x.law(0, 23, v, 0, 0), 0, 4, OUTSIDE);
        for (int kind = 0; kind < 5; kind++) {
            int of = kind;
            bounds("13 law a of kind " + kind, StoreSlopes::new, (x, v) -> x.law(3, 9, of, v, 0), -99, 99, OUTSIDE);
            bounds("13 law b of kind " + kind, StoreSlopes::new, (x, v) -> x.law(3, 9, of, 0, v), -9, 9, OUTSIDE);
        }
        lawIsRead((x, v) -> x.law(v, 23, 0, 0, 0), 0, 0, 23, 0);
        lawIsRead((x, v) -> x.law(0, v, 0, 0, 0), 1, 0, 23, 0);
        lawIsRead((x, v) -> x.law(0, 23, v, 0, 0), 2, 0, 4, 0);
        lawIsRead((x, v) -> x.law(0, 23, 0, v, 0), 3, -99, 99, 100);
        lawIsRead((x, v) -> x.law(0, 23, 0, 0, v), 4, -9, 9, 10);
    }

    private static void lawIsRead(Call call, int what, int least, int most, int shift) {
        for (int v = least; v <= most; v++) {
            StoreSlopes x = new StoreSlopes();
            call.on(x, v);
            Check.due("4 lawAt " + what + " of " + v, x.lawAt(0, what), v + shift);
            Check.due("13 law is a deed", x.told(13), 1);
        }
    }

    private static void lawSpan() {
        for (int f = 0; f < 24; f++) {
            for (int u = 0; u < 24; u++) {
                StoreSlopes x = new StoreSlopes();
                Check.due("13 law from " + f + " to " + u, x.law(f, u, 0, 0, 0), f > u ? OUTSIDE : Check.M);
                Check.due("13 laws then", x.told(7), f > u ? 0 : 1);
                Check.due("4 hours that have their price by it", x.lawAt(0, 5), f > u ? UNKNOWN : u - f + 1);
            }
        }
    }

    private static void dropLaw() {
        for (int count : new int[] {0, 1, 2, 11, 12}) {
            bounds("14 drop k of " + count, () -> withLaws(count), (x, v) -> x.drop(v), 0, count - 1, UNKNOWN);
        }
    }

    private static void driftTimes() {
        bounds("16 drift", StoreSlopes::new, (x, v) -> x.drift(v), 1, 12, OUTSIDE);
        for (int n = 1; n <= 12; n++) {
            StoreSlopes x = new StoreSlopes();
            Check.due("16 drift " + n, x.drift(n), n);
            Check.due("16 drift " + n + ": laws", x.told(7), n);
            Check.due("16 drift " + n + ": deeds", x.told(13), n);
        }
    }

    private static StoreSlopes withDeeds(int count) {
        StoreSlopes x = new StoreSlopes();
        for (int i = 1; i <= count; i++) x.begin(i);
        return x;
    }

    private static void undoTimes() {
        bounds("17 undo", () -> withDeeds(40), (x, v) -> x.undo(v), 1, 40, OUTSIDE);
        for (int deeds : new int[] {0, 1, 2, 39, 40, 41, 60}) {
            int kept = Math.min(40, deeds);
            for (int n = 1; n <= 40; n++) {
                StoreSlopes x = withDeeds(deeds);
                Check.due("17 undo " + n + " of " + deeds, x.undo(n), n <= kept ? kept - n : NOT);
                Check.due("17 undo " + n + " of " + deeds + ": start", x.told(1), n <= kept ? deeds - n : deeds);
            }
        }
    }

    private static void gainWhat() {
        bounds("18 gain", StoreSlopes::new, (x, v) -> x.gain(v), 0, 3, OUTSIDE);
    }

    private static void withoutHour() {
        bounds("19 without", StoreSlopes::new, (x, v) -> x.without(v), 0, 23, UNKNOWN);
    }

    private static void withHourAndPrice() {
        bounds("20 with h", StoreSlopes::new, (x, v) -> x.with(v, 0), 0, 23, UNKNOWN);
        for (int h : new int[] {0, 23}) {
            bounds("20 with price of " + h, StoreSlopes::new, (x, v) -> x.with(h, v), -999, 999, OUTSIDE);
        }
    }

    private static void seedNumber() {
        for (int v : new int[] {0, 1, 65535, 65536, 2147483646, 2147483647}) {
            StoreSlopes x = new StoreSlopes();
            Check.due("21 seed " + v + ": what it was", x.seed(v), 0);
            Check.due("21 seed " + v + ": what it is", x.seed(0), v);
            Check.due("21 seed " + v + ": no deed", x.told(13), 0);
        }
        for (int v : new int[] {-1, -2, Check.LOW, Check.LOW + 1}) {
            StoreSlopes x = new StoreSlopes();
            x.seed(77);
            Check.due("21 seed " + v, x.seed(v), OUTSIDE);
            Check.due("21 seed " + v + ": what it is", x.seed(0), 77);
        }
    }

    private static void imageNumbers() {
        bounds("22 keep", StoreSlopes::new, (x, v) -> x.keep(v), 0, 1, UNKNOWN);
        bounds("23 goBack", () -> {
            StoreSlopes x = new StoreSlopes();
            x.keep(0);
            x.keep(1);
            return x;
        }, (x, v) -> x.goBack(v), 0, 1, UNKNOWN);
        for (int i = 0; i < 2; i++) {
            StoreSlopes x = new StoreSlopes();
            Check.due("23 goBack " + i + " of a new object", x.goBack(i), NOT);
            x.keep(1 - i);
            Check.due("23 goBack " + i + " with the other kept", x.goBack(i), NOT);
            Check.due("23 goBack the other", x.goBack(1 - i), 1);
            Check.due("22 keep answers", x.keep(i), 1);
            Check.due("23 goBack " + i + " once kept", x.goBack(i), 1);
        }
    }
}
