import java.util.Random;

/** Long drawn runs of calls, right and wrong ones, each answered by the class and by the plain model. */
public final class ModelTests {
    private static final int RUNS = 260;
    private static final int CALLS = 500;
    private static final int SHOWN = 20;

    private final Random random;
    private final int run;
    private final StoreSlopes slopes = new StoreSlopes();
    private final Model model = new Model();
    private int wrong;

    private ModelTests(int run) {
        this.run = run;
        random = new Random(run);
    }

    public static void main(String[] args) {
        int wrong = 0;
        for (int run = 0; run < RUNS && wrong < SHOWN; run++) wrong += new ModelTests(run).play();
        if (wrong != 0) System.exit(1);
    }

    private int play() {
        // Some runs have few deeds that stop trade, others many, so that full and empty stores both come.
        int ease = random.nextInt(3);
        for (int i = 0; i < CALLS && wrong == 0; i++) {
            if (random.nextInt(4) == 0) deed(ease);
            else look();
        }
        return wrong;
    }

    /** Mostly within the bounds, at times at their edges or just behind them. */
    private int near(int least, int most) {
        int way = random.nextInt(24);
        if (way == 0) return least - 1;
        if (way == 1) return most + 1;
        if (way == 2) return least;
        if (way == 3) return most;
        if (way == 4 && random.nextInt(10) == 0) return random.nextInt();
        return least + random.nextInt(most - least + 1);
    }

    private void due(String call, int got, int want) {
        if (got == want) return;
        wrong++;
        System.out.println("model run " + run + ": " + call + " answered " + got + ", the model " + want);
    }

    private void deed(int ease) {
        switch (random.nextInt(16)) {
            case 0: { int a = near(0, 9), b = near(0, 9); due("store " + a + " " + b, slopes.store(a, b), model.store(a, b)); break; }
            case 1: { int f = near(0, 23), u = near(0, 23), r = near(0, ease == 0 ? 60 : ease == 1 ? 12 : 3); due("room " + f + " " + u + " " + r, slopes.room(f, u, r), model.room(f, u, r)); break; }
            case 2: { int a = near(0, ease == 0 ? 60 : 12); due("begin " + a, slopes.begin(a), model.begin(a)); break; }
            case 3: { int a = near(0, 9); due("hold " + a, slopes.hold(a), model.hold(a)); break; }
            case 4: { int a = near(-99, 99); due("worth " + a, slopes.worth(a), model.worth(a)); break; }
            case 5: { int a = near(0, 50); due("spread " + a, slopes.spread(a), model.spread(a)); break; }
            case 6: case 7: case 8: {
                int f = near(0, 23), u = random.nextInt(8) == 0 ? near(0, 23) : near(Math.min(23, Math.max(0, f)), 23), kind = near(0, 4), a = near(-99, 99), b = near(-9, 9);
                due("law " + f + " " + u + " " + kind + " " + a + " " + b, slopes.law(f, u, kind, a, b), model.law(f, u, kind, a, b));
                break;
            }
            case 9: { int k = near(0, Math.max(0, model.now.laws.size() - 1)); due("drop " + k, slopes.drop(k), model.drop(k)); break; }
            case 10: due("done", slopes.done(), model.done()); break;
            case 11: { int n = random.nextInt(2) == 0 ? near(1, 12) : near(1, 2); due("drift " + n, slopes.drift(n), model.drift(n)); break; }
            case 12: { int n = random.nextInt(3) == 0 ? near(1, 40) : near(1, 4); due("undo " + n, slopes.undo(n), model.undo(n)); break; }
            case 13: { int v = random.nextInt() & (random.nextInt(4) == 0 ? -1 : 0x7fffffff); due("seed " + v, slopes.seed(v), model.seed(v)); break; }
            case 14: if (random.nextInt(4) == 0) { int i = near(0, 1); due("keep " + i, slopes.keep(i), model.keep(i)); } break;
            default: if (random.nextInt(4) == 0) { int i = near(0, 1); due("goBack " + i, slopes.goBack(i), model.goBack(i)); } break;
        }
    }

    private void look() {
        switch (random.nextInt(9)) {
            case 0: { int w = near(0, 13); due("told " + w, slopes.told(w), model.told(w)); break; }
            case 1: case 2: { int h = near(0, 23), w = near(0, 6); due("hour " + h + " " + w, slopes.hour(h, w), model.hour(h, w)); break; }
            case 3: { int k = near(0, Math.max(0, model.now.laws.size() - 1)), w = near(0, 5); due("lawAt " + k + " " + w, slopes.lawAt(k, w), model.lawAt(k, w)); break; }
            case 4: { int h = near(0, 24), x = near(0, 60); due("value " + h + " " + x, slopes.value(h, x), model.value(h, x)); break; }
            case 5: { int h = near(0, 24), x = near(0, random.nextBoolean() ? 59 : 15); due("margin " + h + " " + x, slopes.margin(h, x), model.margin(h, x)); break; }
            case 6: { int w = near(0, 3); due("gain " + w, slopes.gain(w), model.gain(w)); break; }
            case 7: { int h = near(0, 23); due("without " + h, slopes.without(h), model.without(h)); break; }
            default: { int h = near(0, 23), p = random.nextBoolean() ? near(-999, 999) : near(-50, 120); due("with " + h + " " + p, slopes.with(h, p), model.with(h, p)); break; }
        }
    }
}
