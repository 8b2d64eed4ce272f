import java.util.ArrayList;
import java.util.Collections;
import java.util.HashSet;
import java.util.List;
import java.util.Random;
import java.util.Set;

/** "Terms", IV: a walk back and its faults. */
final class WalkBackCases {
    private WalkBackCases() {
    }

    static void all() {
        Doc.says(0, "A WALK BACK: from an EDGE or INNER POINT of a size,", WalkBackCases::fromAnyPoint);
        Doc.says(0, "a row of steps (bytes): a right and down, b left and down, c left and up, d right and up;",
            WalkBackCases::fourSteps);
        Doc.says(0, "up to 200.", WalkBackCases::twoHundredSteps);
        Doc.says(0, "It tells the DRAWING of that size in which such a LINE goes so:", WalkBackCases::lineGoesSo);
        Doc.says(0, "at each POINT that it comes to", WalkBackCases::atEachPoint);
        Doc.says(0, "(the one from which it began, too, from the last step to the first) what is there;",
            WalkBackCases::whereItBegan);
        Doc.says(0, "other INNER POINTS have no MIRROR.", WalkBackCases::otherPoints);
        Doc.says(0, "FAULTS, the first by steps,", WalkBackCases::firstFault);
        Doc.says(0, "of one step the least:", WalkBackCases::leastFault);
        Doc.says(0, "1 no such byte;", WalkBackCases::noSuchByte);
        Doc.says(0, "2 it leaves the DRAWING;", WalkBackCases::leaves);
        Doc.says(0, "3 a SQUARE that was gone through", WalkBackCases::goneThrough);
        Doc.says(0, "(so each POINT is told one way alone).", WalkBackCases::oneWayAlone);
        Doc.says(0, "Then 4 (at the length): it doesn't end where it began,", WalkBackCases::notClosed);
        Doc.says(0, "or has no steps.", WalkBackCases::noSteps);
    }

    /** What a walk from a point of a size (wide, high, i, j) answers on an object with a drawing, and what it leaves. */
    private static ThresholdLines due(String steps, int[] from, int kind, int place, int answer) {
        ThresholdLines x = Made.ringed(3, 2);
        x.pin(2, 1, true);
        String before = Made.seen(x);
        Check.tape(x, steps);
        String call = "walk " + steps + " from " + from[2] + " " + from[3] + " in " + from[0] + " " + from[1];
        Check.due(call, x.back(from[0], from[1], from[2], from[3]), answer);
        Check.due("fault of " + call, x.fault(0), kind);
        Check.due("place in " + call, x.fault(1), place);
        Check.due("the tape after " + call, x.about(7), 0);
        if (kind != 0) {
            Made.same("the former stays after " + call, Made.seen(x), before);
            Check.due("its pin stays after " + call, x.about(5), 1);
        }
        return x;
    }

    private static void fault(String steps, int[] from, int kind, int place) {
        due(steps, from, kind, place, -1);
    }

    private static ThresholdLines told(String steps, int[] from, int answer) {
        return due(steps, from, 0, -1, answer);
    }

    private static int[] from(int wide, int high, int i, int j) {
        return new int[] {wide, high, i, j};
    }

    /** All lines of all kinds of drawings, begun at each of their points, both ways round. */
    private interface Walked {
        void of(ThresholdLines x, List<int[]> points);
    }

    private static void ofWalks(Walked test) {
        Random random = new Random(12);
        for (int[] size : new int[][] {{1, 1}, {2, 1}, {1, 2}, {2, 2}, {3, 2}, {1, 8}, {8, 1}, {4, 4}}) {
            for (int n = 0; n < 4; n++) {
                ThresholdLines x = n == 0 ? new ThresholdLines(size[0], size[1]) : n == 1 ? Made.ringed(size[0], size[1])
                    : Made.random(random, size[0], size[1]);
                for (int l = 0; l < x.lines(); l++) {
                    List<int[]> points = new ArrayList<>(Made.points(x, l));
                    for (int turn = 0; turn < points.size(); turn++) {
                        test.of(x, points);
                        Collections.reverse(points);
                        test.of(x, points);
                        Collections.reverse(points);
                        Collections.rotate(points, 1);
                    }
                }
            }
        }
    }

    private static int[] beginning(ThresholdLines x, List<int[]> points) {
        return from(x.about(0), x.about(1), points.get(0)[0], points.get(0)[1]);
    }

    private static int innerMet(ThresholdLines x, List<int[]> points) {
        Set<Integer> met = new HashSet<>();
        for (int[] p : points) {
            if (x.mirror(p[0], p[1]) != -1) {
                met.add(100 * p[0] + p[1]);
            }
        }
        return met.size();
    }

    private static void fromAnyPoint() {
        for (int i = 0; i <= 4; i++) {
            for (int j = 1 - i % 2; j <= 4; j += 2) {
                // A line round a dot or the middle corner, below the point, above it, or at its side.
                String steps = j == 0 ? "abcd" : j == 4 ? "dcba" : i < 3 ? "dabc" : "cbad";
                ThresholdLines x = new ThresholdLines(1, 1);
                Check.tape(x, steps);
                Check.due("from " + i + " " + j, x.back(2, 2, i, j) != -1, true);
                Check.due("fault from " + i + " " + j, x.fault(0), 0);
            }
        }
        told("abcd", from(1, 1, 1, 0), 0);
        told("bcda", from(1, 1, 2, 1), 0);
        told("cdab", from(1, 1, 1, 2), 0);
        told("dabc", from(1, 1, 0, 1), 0);
        told("abcd", from(8, 8, 15, 14), 2);
        told("dcba", from(8, 8, 15, 16), 2);
    }

    private static void fourSteps() {
        for (String steps : new String[] {"abcd", "badc", "cdab", "dcba"}) {
            told(steps, from(8, 8, 8, 7), 4);
        }
        // Each step, from the middle of 2 by 1, with each other behind it: where it led is seen from these.
        int[][] to = {{3, 2}, {1, 2}, {1, 0}, {3, 0}};
        String[] names = {"a", "b", "c", "d"};
        for (int way = 0; way < 4; way++) {
            for (int then = 0; then < 4; then++) {
                int i = to[way][0] + (then == 0 || then == 3 ? 1 : -1);
                int j = to[way][1] + (then < 2 ? 1 : -1);
                boolean inside = i >= 0 && i <= 4 && j >= 0 && j <= 2;
                boolean gone = i == 2 && j == 1;
                String steps = names[way] + names[then];
                fault(steps, from(2, 1, 2, 1), !inside ? 2 : gone ? 3 : 4, inside && !gone ? 2 : 1);
            }
        }
    }

    private static void twoHundredSteps() {
        Random random = new Random(13);
        boolean found = false;
        for (int n = 0; n < 5000 && !found; n++) {
            ThresholdLines x = Made.random(random, 8, 8);
            for (int l = 0; l < x.lines(); l++) {
                if (x.line(l, 0) == 200) {
                    found = true;
                    List<int[]> points = Made.points(x, l);
                    String steps = Made.steps(points);
                    ThresholdLines y = told(steps, beginning(x, points), innerMet(x, points));
                    Check.due("a line of 200 squares", y.line(y.lineOf(x.walk(l, 0)), 0), 200);
                    fault(steps.substring(0, 199), beginning(x, points), 4, 199);
                    fault(steps.substring(0, 199) + "e", beginning(x, points), 1, 199);
                }
            }
        }
        Check.due("there is a line of 200 squares", found, true);
    }

    private static void lineGoesSo() {
        ofWalks((x, points) -> {
            ThresholdLines y = told(Made.steps(points), beginning(x, points), innerMet(x, points));
            Check.due("wide", y.about(0), x.about(0));
            Check.due("high", y.about(1), x.about(1));
            int square = 2 * x.about(0) * Math.min(points.get(0)[1], points.get(1)[1]) + Math.min(points.get(0)[0], points.get(1)[0]);
            Made.same("the line", Made.walk(y, y.lineOf(square)).toString(), Made.walk(x, x.lineOf(square)).toString());
        });
    }

    private static void atEachPoint() {
        ofWalks((x, points) -> {
            ThresholdLines y = told(Made.steps(points), beginning(x, points), innerMet(x, points));
            for (int[] p : points) {
                Check.due("at " + p[0] + " " + p[1], y.mirror(p[0], p[1]), x.mirror(p[0], p[1]));
            }
        });
        Check.due("straight on", told("dabccbad", from(2, 1, 2, 1), 1).mirror(2, 1), 0);
        Check.due("standing", told("dabc", from(2, 1, 2, 1), 1).mirror(2, 1), 1);
        Check.due("lying", told("dabcbcda", from(2, 1, 2, 1), 1).mirror(2, 1), 2);
    }

    private static void whereItBegan() {
        Check.due("from right up to left down, by the left", told("cbad", from(2, 1, 2, 1), 1).mirror(2, 1), 1);
        Check.due("round the middle corner, from its top", told("abcd", from(2, 2, 2, 1), 4).mirror(2, 1), 2);
        Check.due("from its right", told("bcda", from(2, 2, 3, 2), 4).mirror(3, 2), 1);
        Check.due("from its foot", told("cdab", from(2, 2, 2, 3), 4).mirror(2, 3), 2);
        Check.due("from its left", told("dabc", from(2, 2, 1, 2), 4).mirror(1, 2), 1);
        Check.due("straight from the last to the first", told("abccbadd", from(2, 1, 3, 0), 1).mirror(2, 1), 0);
        Check.due("begun where it crosses itself", told("dabccbad", from(2, 1, 2, 1), 1).mirror(2, 1), 0);
        // An edge point has no mirror, whatever the steps.
        Check.due("from the edge", told("abcd", from(2, 1, 1, 0), 1).mirror(1, 0), -1);
    }

    private static void otherPoints() {
        ofWalks((x, points) -> {
            ThresholdLines y = told(Made.steps(points), beginning(x, points), innerMet(x, points));
            for (int[] p : points) {
                if (y.mirror(p[0], p[1]) != -1) {
                    y.set(p[0], p[1], 0);
                }
            }
            Check.due("none elsewhere", y.about(3) + y.about(4), 0);
        });
        ThresholdLines x = Made.ringed(3, 2);
        Check.tape(x, "abcd");
        Check.due("of the same size as the former", x.back(3, 2, 1, 0), 2);
        Made.same("the former's are gone", Made.seen(x), "3x2:1020000");
    }

    private static void firstFault() {
        int[] top = from(1, 1, 1, 0);
        fault("xd", top, 1, 0);
        fault("dx", top, 2, 0);
        fault("acx", top, 3, 1);
        fault("axc", top, 1, 1);
        fault("aax", top, 2, 1);
        fault("abcdcx", top, 2, 4);
        fault("abcdax", top, 3, 4);
        fault("abcdxa", top, 1, 4);
        fault("abx", top, 1, 2);
        fault("ab", top, 4, 2);
    }

    private static void leastFault() {
        int[] top = from(1, 1, 1, 0);
        // Behind a closed walk every step is wrong: no byte, out of the drawing, or through a square once more.
        fault("abcd?", top, 1, 4);
        fault("abcdc", top, 2, 4);
        fault("abcdd", top, 2, 4);
        fault("abcda", top, 3, 4);
        fault("abcdb", top, 3, 4);
        // A step that is out and the last one is no walk that doesn't end where it began.
        fault("d", top, 2, 0);
        fault("ac", top, 3, 1);
    }

    private static void noSuchByte() {
        for (int sign = 0; sign < 256; sign++) {
            if (sign < 'a' || sign > 'd') {
                fault((char) sign + "abcd", from(1, 1, 1, 0), 1, 0);
                fault("ab" + (char) sign + "cd", from(1, 1, 1, 0), 1, 2);
                fault("abcd" + (char) sign, from(1, 1, 1, 0), 1, 4);
            }
        }
    }

    private static void leaves() {
        int[][] edges = {{1, 0}, {3, 0}, {1, 4}, {3, 4}, {0, 1}, {0, 3}, {4, 1}, {4, 3}};
        for (int[] edge : edges) {
            int[] from = from(2, 2, edge[0], edge[1]);
            fault("a", from, edge[0] == 4 || edge[1] == 4 ? 2 : 4, edge[0] == 4 || edge[1] == 4 ? 0 : 1);
            fault("b", from, edge[0] == 0 || edge[1] == 4 ? 2 : 4, edge[0] == 0 || edge[1] == 4 ? 0 : 1);
            fault("c", from, edge[0] == 0 || edge[1] == 0 ? 2 : 4, edge[0] == 0 || edge[1] == 0 ? 0 : 1);
            fault("d", from, edge[0] == 4 || edge[1] == 0 ? 2 : 4, edge[0] == 4 || edge[1] == 0 ? 0 : 1);
        }
        // Of the size that is told, not of the drawing that is there.
        fault("a".repeat(9), from(8, 8, 8, 7), 2, 8);
        fault("a".repeat(8), from(8, 8, 8, 7), 4, 8);
        fault("c".repeat(8), from(8, 8, 8, 7), 2, 7);
        fault("c".repeat(7), from(8, 8, 8, 7), 4, 7);
    }

    private static void goneThrough() {
        fault("ac", from(2, 2, 2, 1), 3, 1);
        fault("ca", from(2, 2, 2, 1), 3, 1);
        fault("bd", from(2, 2, 2, 1), 3, 1);
        fault("db", from(2, 2, 2, 1), 3, 1);
        // At the end of a line round: begun once more.
        fault("abcdabcd", from(2, 2, 2, 1), 3, 4);
        // The other way along, and the same way along.
        fault("abcdb", from(1, 1, 1, 0), 3, 4);
        fault("abcda", from(1, 1, 1, 0), 3, 4);
        // Behind other squares, back through the first one.
        fault("dabccbac", from(2, 1, 2, 1), 3, 7);
        // In the last square of the largest drawing.
        fault("bd", from(8, 8, 16, 15), 3, 1);
        fault("db", from(8, 8, 15, 16), 3, 1);
    }

    private static void oneWayAlone() {
        // A point that is come to twice uses up its four squares; a third time can't be.
        ThresholdLines x = told("dabccbad", from(2, 1, 2, 1), 1);
        Check.due("the point comes twice", x.line(0, 4), 1);
        for (String more : new String[] {"a", "b", "c", "d"}) {
            fault("dabccbad" + more, from(2, 1, 2, 1), 3, 8);
            fault("dabcbcda" + more, from(2, 1, 2, 1), 3, 8);
        }
    }

    private static void notClosed() {
        int[] top = from(2, 2, 1, 0);
        fault("a", top, 4, 1);
        fault("ab", top, 4, 2);
        fault("abc", top, 4, 3);
        told("abcd", top, 2);
        // At the beginning's i, or j, alone.
        fault("ab", from(2, 2, 1, 0), 4, 2);
        fault("ad", from(2, 2, 1, 0), 4, 2);
        // Through the beginning and away again.
        fault("dabcc", from(2, 1, 2, 1), 4, 5);
        fault("dabcb", from(2, 1, 2, 1), 4, 5);
        told("dabc", from(2, 1, 2, 1), 1);
    }

    private static void noSteps() {
        for (int i = 0; i <= 4; i++) {
            for (int j = 1 - i % 2; j <= 4; j += 2) {
                fault("", from(2, 2, i, j), 4, 0);
            }
        }
        fault("", from(1, 1, 1, 0), 4, 0);
        fault("", from(8, 8, 16, 15), 4, 0);
    }
}
