import java.util.ArrayList;
import java.util.List;

/**
 * All that can be seen of an object, as one row of answers. It stays with what went ahead of it under the
 * 512 calls of an object, so two objects with the same deeds are looked at, not one object twice.
 */
final class Sight {
    private static final int[] LEVELS = {0, 1, 5, 30, 59};
    private final List<String> calls = new ArrayList<>();
    private final List<Integer> answers = new ArrayList<>();

    /** What is so: 304 calls that change nothing. */
    static Sight of(StoreSlopes x) {
        Sight sight = new Sight();
        for (int i = 0; i < 14; i++) sight.add("told " + i, x.told(i));
        for (int h = 0; h < 24; h++) {
            for (int i = 0; i < 7; i++) sight.add("hour " + h + " " + i, x.hour(h, i));
        }
        for (int k = 0; k < 12; k++) {
            for (int i = 0; i < 6; i++) sight.add("lawAt " + k + " " + i, x.lawAt(k, i));
        }
        for (int h = 0; h <= 24; h += 6) {
            for (int level : LEVELS) {
                sight.add("value " + h + " " + level, x.value(h, level));
                sight.add("margin " + h + " " + level, x.margin(h, level));
            }
        }
        return sight;
    }

    /** What is so and what lies behind it: THE SEED, each deed that can be undone, both IMAGES. */
    static Sight throughAll(StoreSlopes x) {
        Sight sight = of(x);
        sight.add("seed", x.seed(5));
        int left = x.told(13);
        for (int i = 0; i < left; i++) {
            sight.add("undo, " + i + " ahead", x.undo(1));
            for (int what : new int[] {0, 1, 7, 8}) sight.add("told " + what + " then", x.told(what));
        }
        for (int i = 0; i < 2; i++) {
            sight.add("goBack " + i, x.goBack(i));
            sight.add("seed then", x.seed(9));
            for (int what : new int[] {0, 1, 7, 8, 9, 13}) sight.add("told " + what + " then", x.told(what));
        }
        return sight;
    }

    private void add(String call, int answer) {
        calls.add(call);
        answers.add(answer);
    }

    void dueAs(String what, Sight other) {
        Check.due(what + ": how many answers", answers.size(), other.answers.size());
        for (int i = 0; i < Math.min(answers.size(), other.answers.size()); i++) {
            Check.due(what + ": then " + calls.get(i), answers.get(i), other.answers.get(i));
        }
    }
}
