import java.util.ArrayList;
import java.util.List;
import java.util.Random;
import java.util.function.Consumer;
import java.util.function.ToLongFunction;

/** Answers are of the drawing that is there, whatever was asked or changed before, and whatever is asked first. */
public final class HistoryTest {
    private static final List<ToLongFunction<ThresholdLines>> QUESTIONS = questions();

    private HistoryTest() {
    }

    public static void main(String[] args) {
        askedFirst();
        longHistories();
        Check.finish();
    }

    private static List<ToLongFunction<ThresholdLines>> questions() {
        List<ToLongFunction<ThresholdLines>> all = new ArrayList<>();
        all.add(ThresholdLines::lines);
        all.add(x -> all(256, x::lineOf));
        all.add(x -> all(64, l -> x.line(l, 0)));
        all.add(x -> all(64, l -> x.line(l, 1)));
        all.add(x -> all(64, l -> x.line(l, 2)));
        all.add(x -> all(64, l -> x.line(l, 3)));
        all.add(x -> all(64, l -> x.line(l, 4)));
        all.add(x -> all(256, k -> x.walk(0, k)));
        all.add(x -> all(256, k -> x.walk(1, k)));
        all.add(x -> all(64, dot -> x.holds(0, dot % 8, dot / 8)));
        all.add(x -> all(256, x::colour));
        all.add(x -> all(16, k -> x.coloured(k, false)));
        all.add(x -> all(16, k -> x.coloured(k, true)));
        all.add(x -> x.joined(0));
        all.add(x -> x.joined(1));
        all.add(x -> all(112, k -> x.change(k, 0)));
        all.add(x -> all(112, k -> x.change(k, 1)));
        all.add(x -> all(112, k -> x.change(k, 2)));
        all.add(ThresholdLines::alike);
        for (int what : new int[] {0, 1, 2, 3, 4, 5, 8}) {
            all.add(x -> x.about(what));
        }
        return all;
    }

    /** Answers to questions with each number below a bound, made one number. */
    private static long all(int bound, java.util.function.IntUnaryOperator question) {
        long sum = 0;
        for (int n = 0; n < bound; n++) {
            sum = 1_000_003 * sum + question.applyAsInt(n);
        }
        return sum;
    }

    private static List<Consumer<ThresholdLines>> changes() {
        List<Consumer<ThresholdLines>> all = new ArrayList<>();
        all.add(x -> { });
        all.add(x -> x.set(2, 1, 1));
        all.add(x -> x.set(1, 2, 0));
        all.add(x -> x.pin(2, 1, true));
        all.add(x -> x.pin(3, 2, false));
        all.add(ThresholdLines::join);
        all.add(x -> drawOf(x, "set 2 1 1 plain 2 2"));
        all.add(x -> drawOf(x, "plain 8 8"));
        all.add(x -> drawOf(x, "plain 9 9"));
        all.add(x -> backOf(x, "abcd"));
        all.add(x -> backOf(x, "abc"));
        all.add(x -> x.keep(0));
        all.add(x -> x.back(0, 0, 0, 0));
        return all;
    }

    private static void drawOf(ThresholdLines x, String text) {
        Check.tape(x, text);
        x.draw();
    }

    private static void backOf(ThresholdLines x, String steps) {
        Check.tape(x, steps);
        x.back(3, 3, 1, 0);
    }

    private static void askedFirst() {
        Random random = new Random(21);
        for (int size = 0; size < 64; size += 3) {
            int seed = random.nextInt();
            int wide = 1 + size % 8;
            int high = 1 + size / 8;
            for (Consumer<ThresholdLines> change : changes()) {
                for (ToLongFunction<ThresholdLines> question : QUESTIONS) {
                    ThresholdLines x = begun(seed, wide, high);
                    askAll(x);
                    change.accept(x);
                    long first = question.applyAsLong(x);
                    Check.due("asked first", first, question.applyAsLong(anew(x)));
                    askAll(x);
                    Check.due("asked again", question.applyAsLong(x), first);
                }
            }
        }
    }

    private static ThresholdLines begun(int seed, int wide, int high) {
        Random random = new Random(seed);
        ThresholdLines x = Made.random(random, wide, high);
        for (int[] p : Made.innerPoints(x)) {
            x.pin(p[0], p[1], random.nextInt(4) == 0);
        }
        return x;
    }

    private static void askAll(ThresholdLines x) {
        for (ToLongFunction<ThresholdLines> question : QUESTIONS) {
            question.applyAsLong(x);
        }
    }

    /**
     * A new object with the same drawing and pins. A pin isn't told, so each point is unpinned to see
     * whether there is one fewer.
     */
    private static ThresholdLines anew(ThresholdLines x) {
        ThresholdLines y = new ThresholdLines(x.about(0), x.about(1));
        for (int[] p : Made.innerPoints(x)) {
            y.set(p[0], p[1], x.mirror(p[0], p[1]));
            int before = x.about(5);
            x.pin(p[0], p[1], false);
            boolean was = x.about(5) < before;
            x.pin(p[0], p[1], was);
            y.pin(p[0], p[1], was);
        }
        return y;
    }

    private static void longHistories() {
        Random random = new Random(22);
        List<Consumer<ThresholdLines>> changes = changes();
        for (int run = 0; run < 60; run++) {
            ThresholdLines x = begun(random.nextInt(), 1 + random.nextInt(8), 1 + random.nextInt(8));
            for (int n = 0; n < 60; n++) {
                List<int[]> points = Made.innerPoints(x);
                if (random.nextInt(3) == 0 || points.isEmpty()) {
                    changes.get(random.nextInt(changes.size())).accept(x);
                } else {
                    int[] p = points.get(random.nextInt(points.size()));
                    x.set(p[0], p[1], random.nextInt(3));
                    x.pin(p[0], p[1], random.nextInt(5) == 0);
                }
                ToLongFunction<ThresholdLines> question = QUESTIONS.get(random.nextInt(QUESTIONS.size()));
                Check.due("after a history", question.applyAsLong(x), question.applyAsLong(anew(x)));
            }
        }
    }
}
