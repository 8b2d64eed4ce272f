import java.util.ArrayList;
import java.util.List;
import java.util.Random;

/** Objects that tests begin with, and what tests see of them. */
final class Made {
    static final int LOW = Integer.MIN_VALUE;
    static final int HIGH = Integer.MAX_VALUE;
    /** Numbers that are no index of anything, some of which wrap round if they are reckoned with. */
    static final int[] FAR = {LOW, LOW + 1, -1 << 30, -256, -2, -1, 256, 257, 1 << 16, 1 << 30, HIGH - 1, HIGH};

    private Made() {
    }

    /** What a text draws, on a new object. */
    static ThresholdLines drawn(String text) {
        ThresholdLines x = new ThresholdLines(1, 1);
        Check.tape(x, text);
        Check.due("dots of " + text, x.draw(), (long) x.about(0) * x.about(1));
        Check.due("fault of " + text, x.fault(0), 0);
        return x;
    }

    /** A line round each dot: all points have the mirror that stands between two dots. */
    static ThresholdLines ringed(int wide, int high) {
        ThresholdLines x = new ThresholdLines(wide, high);
        for (int[] p : innerPoints(x)) {
            x.set(p[0], p[1], p[0] % 2 == 0 ? 1 : 2);
        }
        return x;
    }

    static ThresholdLines random(Random random, int wide, int high) {
        ThresholdLines x = new ThresholdLines(wide, high);
        int most = 3 + random.nextInt(5);
        for (int[] p : innerPoints(x)) {
            int mirror = random.nextInt(most);
            x.set(p[0], p[1], mirror > 2 ? 0 : mirror);
        }
        return x;
    }

    static List<int[]> innerPoints(ThresholdLines x) {
        List<int[]> points = new ArrayList<>();
        for (int j = 1; j < 2 * x.about(1); j++) {
            for (int i = 1; i < 2 * x.about(0); i++) {
                if ((i + j) % 2 == 1) {
                    points.add(new int[] {i, j});
                }
            }
        }
        return points;
    }

    static List<Integer> walk(ThresholdLines x, int l) {
        List<Integer> squares = new ArrayList<>();
        for (int k = 0; k < 256 && x.walk(l, k) != -1; k++) {
            squares.add(x.walk(l, k));
        }
        return squares;
    }

    /** The points of a line's walk, the left one of its first square first. */
    static List<int[]> points(ThresholdLines x, int l) {
        return points(x.about(0), walk(x, l));
    }

    static List<int[]> points(int wide, List<Integer> squares) {
        int a = squares.get(0) % (2 * wide);
        int b = squares.get(0) / (2 * wide);
        int[] at = {a, (a + b) % 2 == 0 ? b + 1 : b};
        List<int[]> points = new ArrayList<>();
        for (int square : squares) {
            points.add(at);
            at = new int[] {2 * (square % (2 * wide)) + 1 - at[0], 2 * (square / (2 * wide)) + 1 - at[1]};
        }
        return points;
    }

    /** The steps from each point to the next, and from the last to the first. */
    static String steps(List<int[]> points) {
        StringBuilder steps = new StringBuilder();
        for (int k = 0; k < points.size(); k++) {
            int[] from = points.get(k);
            int[] to = points.get((k + 1) % points.size());
            boolean right = to[0] > from[0];
            boolean down = to[1] > from[1];
            steps.append(down ? right ? 'a' : 'b' : right ? 'd' : 'c');
        }
        return steps.toString();
    }

    /** All mirrors, by j, then i, behind the size. */
    static String seen(ThresholdLines x) {
        StringBuilder all = new StringBuilder().append(x.about(0)).append('x').append(x.about(1)).append(':');
        for (int[] p : innerPoints(x)) {
            all.append(x.mirror(p[0], p[1]));
        }
        return all.toString();
    }

    /** The points of JOINED's changes with the mirrors then, as "i,j=mirror" one behind the other. */
    static String changes(ThresholdLines x) {
        StringBuilder all = new StringBuilder();
        for (int k = 0; k < x.joined(1); k++) {
            all.append(k == 0 ? "" : " ").append(x.change(k, 0)).append(',').append(x.change(k, 1))
                .append('=').append(x.change(k, 2));
        }
        return all.toString();
    }

    static void same(String of, String got, String want) {
        Check.due(of + ": " + got + ", due is " + want + ";", got.equals(want), true);
    }
}
